/-! ===== the reference's comers ===== -/
theorem d_X12_comers_0 : decode cX12_comers 0 = .ok (.iconst 0, 1) := by decide +kernel
theorem d_X12_comers_1 : decode cX12_comers 1 = .ok (.istore_n 2, 1) := by decide +kernel
theorem d_X12_comers_2 : decode cX12_comers 2 = .ok (.iconst 0, 1) := by decide +kernel
theorem d_X12_comers_3 : decode cX12_comers 3 = .ok (.istore_n 3, 1) := by decide +kernel
theorem d_X12_comers_4 : decode cX12_comers 4 = .ok (.iload_n 3, 1) := by decide +kernel
theorem d_X12_comers_5 : decode cX12_comers 5 = .ok (.aload_n 0, 1) := by decide +kernel
theorem d_X12_comers_6 : decode cX12_comers 6 = .ok (.getfield 393, 3) := by decide +kernel
theorem d_X12_comers_9 : decode cX12_comers 9 = .ok (.if_icmp .ge 79, 3) := by decide +kernel
theorem d_X12_comers_12 : decode cX12_comers 12 = .ok (.iconst 0, 1) := by decide +kernel
theorem d_X12_comers_13 : decode cX12_comers 13 = .ok (.istore 4, 2) := by decide +kernel
theorem d_X12_comers_15 : decode cX12_comers 15 = .ok (.aload_n 0, 1) := by decide +kernel
theorem d_X12_comers_16 : decode cX12_comers 16 = .ok (.getfield 80, 3) := by decide +kernel
theorem d_X12_comers_19 : decode cX12_comers 19 = .ok (.iload_n 3, 1) := by decide +kernel
theorem d_X12_comers_20 : decode cX12_comers 20 = .ok (.iaload, 1) := by decide +kernel
theorem d_X12_comers_21 : decode cX12_comers 21 = .ok (.istore 5, 2) := by decide +kernel
theorem d_X12_comers_23 : decode cX12_comers 23 = .ok (.iload 5, 2) := by decide +kernel
theorem d_X12_comers_25 : decode cX12_comers 25 = .ok (.aload_n 0, 1) := by decide +kernel
theorem d_X12_comers_26 : decode cX12_comers 26 = .ok (.getfield 80, 3) := by decide +kernel
theorem d_X12_comers_29 : decode cX12_comers 29 = .ok (.iload_n 3, 1) := by decide +kernel
theorem d_X12_comers_30 : decode cX12_comers 30 = .ok (.iconst 1, 1) := by decide +kernel
theorem d_X12_comers_31 : decode cX12_comers 31 = .ok (.iadd, 1) := by decide +kernel
theorem d_X12_comers_32 : decode cX12_comers 32 = .ok (.iaload, 1) := by decide +kernel
theorem d_X12_comers_33 : decode cX12_comers 33 = .ok (.if_icmp .ge 36, 3) := by decide +kernel
theorem d_X12_comers_36 : decode cX12_comers 36 = .ok (.iload 4, 2) := by decide +kernel
theorem d_X12_comers_38 : decode cX12_comers 38 = .ok (.ifCond .ne 18, 3) := by decide +kernel
theorem d_X12_comers_41 : decode cX12_comers 41 = .ok (.aload_n 0, 1) := by decide +kernel
theorem d_X12_comers_42 : decode cX12_comers 42 = .ok (.getfield 84, 3) := by decide +kernel
theorem d_X12_comers_45 : decode cX12_comers 45 = .ok (.iload 5, 2) := by decide +kernel
theorem d_X12_comers_47 : decode cX12_comers 47 = .ok (.iaload, 1) := by decide +kernel
theorem d_X12_comers_48 : decode cX12_comers 48 = .ok (.sipush 128, 3) := by decide +kernel
theorem d_X12_comers_51 : decode cX12_comers 51 = .ok (.irem, 1) := by decide +kernel
theorem d_X12_comers_52 : decode cX12_comers 52 = .ok (.iload_n 1, 1) := by decide +kernel
theorem d_X12_comers_53 : decode cX12_comers 53 = .ok (.if_icmp .ne 7, 3) := by decide +kernel
theorem d_X12_comers_56 : decode cX12_comers 56 = .ok (.iconst 1, 1) := by decide +kernel
theorem d_X12_comers_57 : decode cX12_comers 57 = .ok (.goto 4, 3) := by decide +kernel
theorem d_X12_comers_60 : decode cX12_comers 60 = .ok (.iconst 0, 1) := by decide +kernel
theorem d_X12_comers_61 : decode cX12_comers 61 = .ok (.istore 4, 2) := by decide +kernel
theorem d_X12_comers_63 : decode cX12_comers 63 = .ok (.iinc 5 1, 3) := by decide +kernel
theorem d_X12_comers_66 : decode cX12_comers 66 = .ok (.goto (-43), 3) := by decide +kernel
theorem d_X12_comers_69 : decode cX12_comers 69 = .ok (.iload_n 2, 1) := by decide +kernel
theorem d_X12_comers_70 : decode cX12_comers 70 = .ok (.iload 4, 2) := by decide +kernel
theorem d_X12_comers_72 : decode cX12_comers 72 = .ok (.ifCond .eq 7, 3) := by decide +kernel
theorem d_X12_comers_75 : decode cX12_comers 75 = .ok (.iconst 1, 1) := by decide +kernel
theorem d_X12_comers_76 : decode cX12_comers 76 = .ok (.goto 4, 3) := by decide +kernel
theorem d_X12_comers_79 : decode cX12_comers 79 = .ok (.iconst 0, 1) := by decide +kernel
theorem d_X12_comers_80 : decode cX12_comers 80 = .ok (.iadd, 1) := by decide +kernel
theorem d_X12_comers_81 : decode cX12_comers 81 = .ok (.istore_n 2, 1) := by decide +kernel
theorem d_X12_comers_82 : decode cX12_comers 82 = .ok (.iinc 3 1, 3) := by decide +kernel
theorem d_X12_comers_85 : decode cX12_comers 85 = .ok (.goto (-81), 3) := by decide +kernel
theorem d_X12_comers_88 : decode cX12_comers 88 = .ok (.iload_n 2, 1) := by decide +kernel
theorem d_X12_comers_89 : decode cX12_comers 89 = .ok (.ireturn, 1) := by decide +kernel
def k_X12_comers_0 (P : xP) (C4 : xK) : xK := x_push (.int 0) (x_istore 2 (x_push (.int 0) (x_istore 3 (C4))))
set_option maxRecDepth 20000 in
theorem t_X12_comers_0 {p : Program} {l : Launch} {e : Env} {s : State} {m : MethodId} {args : Array Value} {below : List Frame} {meth : Method} {c : Code} {g : xG} (X : xX p s m args c meth cX12_comers RX12 6 g) (hr : meth.sig.returnType = (some .int)) {P : xP} {C4 : xK} (h4 : xAt p l e { frames := 0, cells := 0, slots := 0, locals := 0 } s m args below meth c g 6 xFT xN 0 0 (MQ below (xQc g xFT xN P) args s 0 0 (xFr g)) C4 4) : xAt p l e { frames := 0, cells := 0, slots := 0, locals := 0 } s m args below meth c g 6 xFT xN 0 0 (MQ below (xQc g xFT xN P) args s 0 0 (xFr g)) (k_X12_comers_0 P C4) 0 := by
  unfold k_X12_comers_0
  refine r_iconst (pc := 0) X d_X12_comers_0 (by decide +kernel) ?_
  refine r_istore_n (pc := 1) X d_X12_comers_1 fn2 (by decide +kernel) ?_
  refine r_iconst (pc := 2) X d_X12_comers_2 (by decide +kernel) ?_
  refine r_istore_n (pc := 3) X d_X12_comers_3 fn3 (by decide +kernel) ?_
  exact h4
def k_X12_comers_4 (P : xP) (C23 : xK) : xK := x_iload 3 (x_aload 0 (y_getI 180 40 (x_icmp_ge (x_iload 2 (x_iret P)) (x_push (.int 0) (x_istore 4 (x_aload 0 (y_getF 180 198 (x_iload 3 (y_iald 198 81 (x_istore 5 (C23)))))))))))
set_option maxRecDepth 20000 in
theorem t_X12_comers_4 {p : Program} {l : Launch} {e : Env} {s : State} {m : MethodId} {args : Array Value} {below : List Frame} {meth : Method} {c : Code} {g : xG} (X : xX p s m args c meth cX12_comers RX12 6 g) (hr : meth.sig.returnType = (some .int)) {P : xP} {C23 : xK} (h23 : xAt p l e { frames := 0, cells := 0, slots := 0, locals := 0 } s m args below meth c g 6 xFT xN 0 0 (MQ below (xQc g xFT xN P) args s 0 0 (xFr g)) C23 23) : xAt p l e { frames := 0, cells := 0, slots := 0, locals := 0 } s m args below meth c g 6 xFT xN 0 0 (MQ below (xQc g xFT xN P) args s 0 0 (xFr g)) (k_X12_comers_4 P C23) 4 := by
  unfold k_X12_comers_4
  refine r_iload_n (pc := 4) X d_X12_comers_4 fn3 ?_
  refine r_aload_n (pc := 5) X d_X12_comers_5 fn0 ?_
  refine s_getI (pc := 6) (ci := 12) X xok12 (by decide +kernel) ob_180 (by decide +kernel) fl_RX12_393 d_X12_comers_6 ?_
  refine r_icmp_ge (pc := 9) (tgt := 88) X d_X12_comers_9 (by decide +kernel) ?_ ?_
  · refine r_iload_n (pc := 88) X d_X12_comers_88 fn2 ?_
    exact r_iret (pc := 89) X hr d_X12_comers_89
  · refine r_iconst (pc := 12) X d_X12_comers_12 (by decide +kernel) ?_
    refine r_istore (pc := 13) X d_X12_comers_13 (by decide +kernel) ?_
    refine r_aload_n (pc := 15) X d_X12_comers_15 fn0 ?_
    refine s_getF (pc := 16) (ci := 12) (k := 37) X xok12 (by decide +kernel) ob_180 trivial ly_180_37 (by decide +kernel) fl_RX12_80 d_X12_comers_16 ?_
    refine r_iload_n (pc := 19) X d_X12_comers_19 fn3 ?_
    refine s_iald (pc := 20) X tn_198 ln_198 d_X12_comers_20 ?_
    refine r_istore (pc := 21) X d_X12_comers_21 (by decide +kernel) ?_
    exact h23
def k_X12_comers_80 (P : xP) (C4 : xK) : xK := x_iadd (x_istore 2 (x_iinc 3 1 (C4)))
set_option maxRecDepth 20000 in
theorem t_X12_comers_80 {p : Program} {l : Launch} {e : Env} {s : State} {m : MethodId} {args : Array Value} {below : List Frame} {meth : Method} {c : Code} {g : xG} (X : xX p s m args c meth cX12_comers RX12 6 g) (hr : meth.sig.returnType = (some .int)) {P : xP} {C4 : xK} (h4 : xAt p l e { frames := 0, cells := 0, slots := 0, locals := 0 } s m args below meth c g 6 xFT xN 0 0 (MQ below (xQc g xFT xN P) args s 0 0 (xFr g)) C4 4) : xAt p l e { frames := 0, cells := 0, slots := 0, locals := 0 } s m args below meth c g 6 xFT xN 0 0 (MQ below (xQc g xFT xN P) args s 0 0 (xFr g)) (k_X12_comers_80 P C4) 80 := by
  unfold k_X12_comers_80
  refine r_iadd (pc := 80) X d_X12_comers_80 ?_
  refine r_istore_n (pc := 81) X d_X12_comers_81 fn2 (by decide +kernel) ?_
  refine r_iinc (pc := 82) X d_X12_comers_82 (by decide +kernel) (by decide +kernel) ?_
  refine r_goto (pc := 85) (tgt := 4) X d_X12_comers_85 (by decide +kernel) ?_
  exact h4
def k_X12_comers_61 (P : xP) (C23 : xK) : xK := x_istore 4 (x_iinc 5 1 (C23))
set_option maxRecDepth 20000 in
theorem t_X12_comers_61 {p : Program} {l : Launch} {e : Env} {s : State} {m : MethodId} {args : Array Value} {below : List Frame} {meth : Method} {c : Code} {g : xG} (X : xX p s m args c meth cX12_comers RX12 6 g) (hr : meth.sig.returnType = (some .int)) {P : xP} {C23 : xK} (h23 : xAt p l e { frames := 0, cells := 0, slots := 0, locals := 0 } s m args below meth c g 6 xFT xN 0 0 (MQ below (xQc g xFT xN P) args s 0 0 (xFr g)) C23 23) : xAt p l e { frames := 0, cells := 0, slots := 0, locals := 0 } s m args below meth c g 6 xFT xN 0 0 (MQ below (xQc g xFT xN P) args s 0 0 (xFr g)) (k_X12_comers_61 P C23) 61 := by
  unfold k_X12_comers_61
  refine r_istore (pc := 61) X d_X12_comers_61 (by decide +kernel) ?_
  refine r_iinc (pc := 63) X d_X12_comers_63 (by decide +kernel) (by decide +kernel) ?_
  refine r_goto (pc := 66) (tgt := 23) X d_X12_comers_66 (by decide +kernel) ?_
  exact h23
def k_X12_comers_56 (P : xP) (C23 : xK) : xK := x_push (.int 1) ((k_X12_comers_61 P C23))
set_option maxRecDepth 20000 in
theorem t_X12_comers_56 {p : Program} {l : Launch} {e : Env} {s : State} {m : MethodId} {args : Array Value} {below : List Frame} {meth : Method} {c : Code} {g : xG} (X : xX p s m args c meth cX12_comers RX12 6 g) (hr : meth.sig.returnType = (some .int)) {P : xP} {C23 : xK} (h23 : xAt p l e { frames := 0, cells := 0, slots := 0, locals := 0 } s m args below meth c g 6 xFT xN 0 0 (MQ below (xQc g xFT xN P) args s 0 0 (xFr g)) C23 23) : xAt p l e { frames := 0, cells := 0, slots := 0, locals := 0 } s m args below meth c g 6 xFT xN 0 0 (MQ below (xQc g xFT xN P) args s 0 0 (xFr g)) (k_X12_comers_56 P C23) 56 := by
  unfold k_X12_comers_56
  refine r_iconst (pc := 56) X d_X12_comers_56 (by decide +kernel) ?_
  refine r_goto (pc := 57) (tgt := 61) X d_X12_comers_57 (by decide +kernel) ?_
  exact t_X12_comers_61 X hr h23
def k_X12_comers_23 (P : xP) (C4 : xK) (C23 : xK) : xK := x_iload 5 (x_aload 0 (y_getF 180 198 (x_iload 3 (x_push (.int 1) (x_iadd (y_iald 198 81 (x_icmp_ge (x_iload 2 (x_iload 4 (x_if_eq (x_push (.int 0) ((k_X12_comers_80 P C4))) (x_push (.int 1) ((k_X12_comers_80 P C4)))))) (x_iload 4 (x_if_ne ((k_X12_comers_56 P C23)) (x_aload 0 (y_getF 180 199 (x_iload 5 (y_iald 199 76800 (x_push (.int 128) (x_irem (x_iload 1 (x_icmp_ne (x_push (.int 0) ((k_X12_comers_61 P C23))) ((k_X12_comers_56 P C23)))))))))))))))))))
set_option maxRecDepth 20000 in
theorem t_X12_comers_23 {p : Program} {l : Launch} {e : Env} {s : State} {m : MethodId} {args : Array Value} {below : List Frame} {meth : Method} {c : Code} {g : xG} (X : xX p s m args c meth cX12_comers RX12 6 g) (hr : meth.sig.returnType = (some .int)) {P : xP} {C4 : xK} {C23 : xK} (h4 : xAt p l e { frames := 0, cells := 0, slots := 0, locals := 0 } s m args below meth c g 6 xFT xN 0 0 (MQ below (xQc g xFT xN P) args s 0 0 (xFr g)) C4 4) (h23 : xAt p l e { frames := 0, cells := 0, slots := 0, locals := 0 } s m args below meth c g 6 xFT xN 0 0 (MQ below (xQc g xFT xN P) args s 0 0 (xFr g)) C23 23) : xAt p l e { frames := 0, cells := 0, slots := 0, locals := 0 } s m args below meth c g 6 xFT xN 0 0 (MQ below (xQc g xFT xN P) args s 0 0 (xFr g)) (k_X12_comers_23 P C4 C23) 23 := by
  unfold k_X12_comers_23
  refine r_iload (pc := 23) X d_X12_comers_23 ?_
  refine r_aload_n (pc := 25) X d_X12_comers_25 fn0 ?_
  refine s_getF (pc := 26) (ci := 12) (k := 37) X xok12 (by decide +kernel) ob_180 trivial ly_180_37 (by decide +kernel) fl_RX12_80 d_X12_comers_26 ?_
  refine r_iload_n (pc := 29) X d_X12_comers_29 fn3 ?_
  refine r_iconst (pc := 30) X d_X12_comers_30 (by decide +kernel) ?_
  refine r_iadd (pc := 31) X d_X12_comers_31 ?_
  refine s_iald (pc := 32) X tn_198 ln_198 d_X12_comers_32 ?_
  refine r_icmp_ge (pc := 33) (tgt := 69) X d_X12_comers_33 (by decide +kernel) ?_ ?_
  · refine r_iload_n (pc := 69) X d_X12_comers_69 fn2 ?_
    refine r_iload (pc := 70) X d_X12_comers_70 ?_
    refine r_if_eq (pc := 72) (tgt := 79) X d_X12_comers_72 (by decide +kernel) ?_ ?_
    · refine r_iconst (pc := 79) X d_X12_comers_79 (by decide +kernel) ?_
      exact t_X12_comers_80 X hr h4
    · refine r_iconst (pc := 75) X d_X12_comers_75 (by decide +kernel) ?_
      refine r_goto (pc := 76) (tgt := 80) X d_X12_comers_76 (by decide +kernel) ?_
      exact t_X12_comers_80 X hr h4
  · refine r_iload (pc := 36) X d_X12_comers_36 ?_
    refine r_if_ne (pc := 38) (tgt := 56) X d_X12_comers_38 (by decide +kernel) ?_ ?_
    · exact t_X12_comers_56 X hr h23
    · refine r_aload_n (pc := 41) X d_X12_comers_41 fn0 ?_
      refine s_getF (pc := 42) (ci := 12) (k := 38) X xok12 (by decide +kernel) ob_180 trivial ly_180_38 (by decide +kernel) fl_RX12_84 d_X12_comers_42 ?_
      refine r_iload (pc := 45) X d_X12_comers_45 ?_
      refine s_iald (pc := 47) X tn_199 ln_199 d_X12_comers_47 ?_
      refine r_sipush (pc := 48) X d_X12_comers_48 (by decide +kernel) ?_
      refine r_irem (pc := 51) X d_X12_comers_51 ?_
      refine r_iload_n (pc := 52) X d_X12_comers_52 fn1 ?_
      refine r_icmp_ne (pc := 53) (tgt := 60) X d_X12_comers_53 (by decide +kernel) ?_ ?_
      · refine r_iconst (pc := 60) X d_X12_comers_60 (by decide +kernel) ?_
        exact t_X12_comers_61 X hr h23
      · exact t_X12_comers_56 X hr h23
set_option maxRecDepth 20000 in
theorem m_X12_comers {l : Launch} {f : Nat → Int32 → xH → xP → Prop}  {I4 : Nat → Int32 → xH → xP → xM → xK} {I23 : Nat → Int32 → xH → xP → xM → xK}
    (v0 : ∀ (a0 : Nat) (a1 : Int32) (A : xH) (P : xP), f a0 a1 A P → k_X12_comers_0 P (xE (I4 a0 a1 A P)) [some (.ref a0), some (.int a1), none, none, none, none] [] A)
    (v4 : ∀ (a0 : Nat) (a1 : Int32) (A : xH) (P : xP), f a0 a1 A P → ∀ (μ : xM) (L : xL) (st : List Value) (B : xH), I4 a0 a1 A P μ L st B → k_X12_comers_4 P (xB (I23 a0 a1 A P) μ) L st B)
    (v23 : ∀ (a0 : Nat) (a1 : Int32) (A : xH) (P : xP), f a0 a1 A P → ∀ (μ : xM) (L : xL) (st : List Value) (B : xH), I23 a0 a1 A P μ L st B → k_X12_comers_23 P (xB (I4 a0 a1 A P) μ) (xB (I23 a0 a1 A P) μ) L st B) : xCon l yX12_comers cX12_comers 6 (some .int) 0 0 xN xN 0 xFT xFT (w_RI f) := by
  refine xc_RI (plainFor_of_name pn_RX12) (by decide +kernel) (fun p e s m args below meth c g a0 a1 A P h X hr _ => ?_)
  obtain ⟨h4, h23⟩ := x_loop2 (p := p) (l := l) (e := e) (R := { frames := 0, cells := 0, slots := 0, locals := 0 }) (s := s) (m := m) (args := args) (below := below) (meth := meth) (c := c) (g := g) (nL := 6) (F := xFT) (n := xN) (cells := 0) (slots := 0) (Q := MQ below (xQc g xFT xN P) args s 0 0 (xFr g)) (I1 := I4 a0 a1 A P) (I2 := I23 a0 a1 A P) (pc1 := 4) (pc2 := 23) (fun μ i4 i23 => xAt_mono (t_X12_comers_4 (P := P) X hr i23) (v4 a0 a1 A P h μ)) (fun μ i4 i23 => xAt_mono (t_X12_comers_23 (P := P) X hr i4 i23) (v23 a0 a1 A P h μ))
  exact ⟨_, v0 a0 a1 A P h, t_X12_comers_0 X hr h4⟩
def cmF (v : xV) (p q m : Nat) : Prop := ∃ y, y < 5376 ∧ tY v p y = true ∧ cb (tY v p) y < m ∧ y % 128 = q
theorem cmF_all {v : xV} {p q : Nat} (hw : wfg v) (hc : wfc v) (hq : q < 128) : cmF v p q (tN (stT v) p) ↔ ∃ s, s < 24 ∧ stT v p s q := by
  constructor
  · rintro ⟨y, a, b, -, d⟩
    have b1 := b
    unfold tY at b1
    rw [bt_iff] at b1
    obtain ⟨X, Q, e1, e2, e3⟩ := b1
    obtain ⟨s, s1, s2, s3⟩ := (rp_st hw hc e1).mp e3
    exact ⟨s, s1, X, Q, e1, by rw [← d]; exact e2, s3⟩
  · rintro ⟨s, s1, h⟩
    have hsc : sc s < 42 := by unfold sc; split <;> (try split) <;> omega
    have t : tY v p (sc s * 128 + q) = true := by
      rw [tY_tX hw hc s1 hq]
      unfold tX
      rw [bt_iff, show (s * 128 + q) / 128 = s by omega, show (s * 128 + q) % 128 = q by omega]
      exact h
    refine ⟨sc s * 128 + q, by omega, t, ?_, by omega⟩
    have m := cb_mono (tY v p) (show sc s * 128 + q + 1 ≤ 5376 by omega)
    rw [cb_s, t, cb_all hw hc] at m
    simp only [Bool.toNat_true] at m
    omega
def cmG (A : xH) (P : xP) (v : xV) (q : Nat) : Prop := wfg v ∧ wfc v ∧ (plL v).length ≤ 80 ∧ plDU A v ∧ q < (plL v).length ∧ P (some (.int (nI (cmN (stT v) q)))) A
def f_X12_comers (q0 : Nat) (x : Int32) (A : xH) (P : xP) : Prop := q0 = 180 ∧ ∃ v q, x = nI q ∧ cmG A P v q
noncomputable def cmB (v : xV) (q p : Nat) : Bool := bt (∃ s, s < 24 ∧ stT v p s q)
def cm4 (A : xH) (P : xP) : xM → xK := fun μ L st B => ∃ (v : xV) (q p : Nat) (o o2 : Option Value), cmG A P v q ∧ p ≤ (plL v).length ∧ B = A ∧ st = [] ∧ L = [some (.ref 180), some (.int (nI q)), some (.int (nI (cb (cmB v q) p))), some (.int (nI p)), o, o2] ∧ μ = (80 - p, 0, 0)
def cm23 (A : xH) (P : xP) : xM → xK := fun μ L st B => ∃ (v : xV) (q p m : Nat), cmG A P v q ∧ p < (plL v).length ∧ m ≤ tN (stT v) p ∧ B = A ∧ st = [] ∧ L = [some (.ref 180), some (.int (nI q)), some (.int (nI (cb (cmB v q) p))), some (.int (nI p)), some (.int (bI (bt (cmF v p q m)))), some (.int (nI (bsY v p + m)))] ∧ μ = (80 - p - 1, 1, 1000 - m)
set_option maxRecDepth 20000 in
theorem con_X12_comers (l : Launch) : xCon l yX12_comers cX12_comers 6 (some .int) 0 0 xN xN 0 xFT xFT (w_RI f_X12_comers) := by
  refine m_X12_comers (I4 := fun q x A P => cm4 A P) (I23 := fun q x A P => cm23 A P) ?_ ?_ ?_
  · rintro q x A P ⟨rfl, v, q, rfl, hG⟩
    simp (disch := omega) only [k_X12_comers_0, k_X12_comers_4, k_X12_comers_23, k_X12_comers_56, k_X12_comers_61, k_X12_comers_80, x_aload, x_iadd, x_icmp_ge, x_icmp_ne, x_if_eq, x_if_ne, x_iinc, x_iload, x_irem, x_iret, x_istore, x_push, y_getF, y_getI, y_iald, xFT, xbool0, xbool1, Nat.reduceAdd, Nat.zero_add, xgl_0, xgl_s, xgl_n, xst_0, xst_1n, xst_1i, xst_1r, xst_1l, xst_s, set_0, set_s, true_and, and_true, xres, xcat_nil, xcat_i, xcat_r, xcat_l, Nat.add_zero, xble0, xble1, xble2, xble3, xble4, xble5, xble6, xble7, xble8, pk_mul, nI_add, nI_1, nI_leI, nI_ltI, nI_eq, n_in, n_cl, z_eq, z_lt, z_le, z_gt, z_ge, z_qe, o_eq, o_lt, o_le, o_gt, o_ge, vp0, vp1, cl0, cl1, n_sub, n_sub1, n_pm1, n_a0, n_0a, ofn, lN0, Nat.reduceLT, Nat.reduceLeDiff, Nat.reduceMul, Nat.reduceSub, Nat.reduceEqDiff, ne_eq, true_implies, false_implies, not_true_eq_false, not_false_eq_true, and_self, and_true, true_and, and_false, false_and, implies_true, if_true, if_false, i00, i10, i01, i11, ob_0, ob_1, tn_2, ln_2, ob_3, tn_4, ln_4, ob_5, tn_6, ln_6, tn_7, ln_7, ob_8, tn_9, ln_9, tn_10, ln_10, tn_11, ln_11, tn_12, ln_12, tn_13, ln_13, tn_14, ln_14, tn_15, ln_15, tn_16, ln_16, tn_17, ln_17, ob_18, tn_19, ln_19, tn_20, ln_20, tn_21, ln_21, tn_22, ln_22, tn_23, ln_23, tn_24, ln_24, tn_25, ln_25, tn_26, ln_26, tn_27, ln_27, ob_28, tn_29, ln_29, tn_30, ln_30, ob_31, tn_32, ln_32, tn_33, ln_33, ob_34, ob_35, tn_36, ln_36, tn_37, ln_37, tn_38, ln_38, ob_39, tn_40, ln_40, tn_41, ln_41, tn_42, ln_42, tn_43, ln_43, tn_44, ln_44, tn_45, ln_45, tn_46, ln_46, tn_47, ln_47, tn_48, ln_48, tn_49, ln_49, tn_50, ln_50, tn_51, ln_51, ob_52, tn_53, ln_53, tn_54, ln_54, tn_55, ln_55, tn_56, ln_56, ob_57, tn_58, ln_58, tn_59, ln_59, tn_60, ln_60, tn_61, ln_61, tn_62, ln_62, tn_63, ln_63, tn_64, ln_64, tn_65, ln_65, ob_66, tn_67, ln_67, tn_68, ln_68, tn_69, ln_69, tn_70, ln_70, tn_71, ln_71, tn_72, ln_72, tn_73, ln_73, ob_74, tn_75, ln_75, tn_76, ln_76, tn_77, ln_77, tn_78, ln_78, tn_79, ln_79, tn_80, ln_80, tn_81, ln_81, tn_82, ln_82, tn_83, ln_83, ob_84, tn_85, ln_85, tn_86, ln_86, tn_87, ln_87, tn_88, ln_88, tn_89, ln_89, tn_90, ln_90, tn_91, ln_91, tn_92, ln_92, tn_93, ln_93, ob_94, tn_95, ln_95, tn_96, ln_96, tn_97, ln_97, tn_98, ln_98, tn_99, ln_99, tn_100, ln_100, tn_101, ln_101, tn_102, ln_102, tn_103, ln_103, ob_104, tn_105, ln_105, tn_106, ln_106, tn_107, ln_107, tn_108, ln_108, tn_109, ln_109, tn_110, ln_110, tn_111, ln_111, tn_112, ln_112, tn_113, ln_113, ob_114, tn_115, ln_115, tn_116, ln_116, tn_117, ln_117, tn_118, ln_118, tn_119, ln_119, tn_120, ln_120, tn_121, ln_121, tn_122, ln_122, tn_123, ln_123, ob_124, tn_125, ln_125, tn_126, ln_126, tn_127, ln_127, tn_128, ln_128, tn_129, ln_129, tn_130, ln_130, tn_131, ln_131, tn_132, ln_132, tn_133, ln_133, ob_134, tn_135, ln_135, tn_136, ln_136, tn_137, ln_137, tn_138, ln_138, tn_139, ln_139, tn_140, ln_140, tn_141, ln_141, tn_142, ln_142, tn_143, ln_143, ob_144, tn_145, ln_145, tn_146, ln_146, tn_147, ln_147, tn_148, ln_148, tn_149, ln_149, tn_150, ln_150, tn_151, ln_151, tn_152, ln_152, tn_153, ln_153, ob_154, tn_155, ln_155, tn_156, ln_156, tn_157, ln_157, tn_158, ln_158, tn_159, ln_159, tn_160, ln_160, tn_161, ln_161, tn_162, ln_162, tn_163, ln_163, ob_164, tn_165, ln_165, tn_166, ln_166, ob_167, tn_168, ln_168, tn_169, ln_169, tn_170, ln_170, tn_171, ln_171, tn_172, ln_172, tn_173, ln_173, tn_174, ln_174, tn_175, ln_175, tn_176, ln_176, ob_177, tn_178, ln_178, tn_179, ln_179, ob_180, tn_181, ln_181, tn_182, ln_182, tn_183, ln_183, tn_184, ln_184, tn_185, ln_185, tn_186, ln_186, tn_187, ln_187, tn_188, ln_188, tn_189, ln_189, tn_190, ln_190, tn_191, ln_191, tn_192, ln_192, tn_193, ln_193, tn_194, ln_194, tn_195, ln_195, tn_196, ln_196, tn_197, ln_197, tn_198, ln_198, tn_199, ln_199, tn_200, ln_200, tn_201, ln_201, tn_202, ln_202, tn_203, ln_203, tn_204, ln_204, tn_205, ln_205, tn_206, ln_206, tn_207, ln_207, tn_208, ln_208, tn_209, ln_209, tn_210, ln_210, tn_211, ln_211, tn_212, ln_212, tn_213, ln_213, tn_214, ln_214, tn_215, ln_215, tn_216, ln_216, tn_217, ln_217, tn_218, ln_218, tn_219, ln_219, tn_220, ln_220, tn_221, ln_221, tn_222, ln_222, tn_223, ln_223, tn_224, ln_224, tn_225, ln_225, tn_226, ln_226, tn_227, ln_227, tn_228, ln_228, tn_229, ln_229, tn_230, ln_230, lx2, lx3, lx4, lx5, lx6, lx7, lx8, lx9, lx10, lx14, lx15, lx16, lx18, lx20, lx24, lx25, lx27, lx32, lx36, lx40, lx41, lx42, lx43, lx45, lx48, lx52, lx54, lx56, lx57, lx58, lx60, lx61, lx62, lx63, lx64, lx66, lx69, lx73, lx80, lx81, lx84, lx85, lx87, lx94, lx96, lx97, lx120, lx128, lx135, lx160, lx162, lx163, lx165, lx200, lx232, lx242, lx243, lx255, lx256, lx320, lx325, lx400, lx405, lx464, lx512, lx600, lx640, lx752, lx900, lx940, lx1000, lx1024, lx1764, lx3360, lx3840, lx5000, lx6400, lx9050, lx9998, lx9999, lx10000, lx25600, lx76800, lx99999]
    exact xE0 (80 - 0, 0, 0) ⟨v, q, 0, none, none, hG, Nat.zero_le _, rfl, rfl, rfl, rfl⟩
  · rintro q x A P - μ L st B ⟨v, q, p, o, o2, hG, hp, rfl, rfl, rfl, rfl⟩
    have hG0 := hG
    obtain ⟨hw, hc, h80, hd, hq, hP⟩ := hG
    obtain ⟨hl, hf, hs⟩ := hd.2 h80
    have c1 := cb_le (cmB v q) p
    simp (disch := omega) only [k_X12_comers_0, k_X12_comers_4, k_X12_comers_23, k_X12_comers_56, k_X12_comers_61, k_X12_comers_80, x_aload, x_iadd, x_icmp_ge, x_icmp_ne, x_if_eq, x_if_ne, x_iinc, x_iload, x_irem, x_iret, x_istore, x_push, y_getF, y_getI, y_iald, xFT, xbool0, xbool1, Nat.reduceAdd, Nat.zero_add, xgl_0, xgl_s, xgl_n, xst_0, xst_1n, xst_1i, xst_1r, xst_1l, xst_s, set_0, set_s, true_and, and_true, xres, xcat_nil, xcat_i, xcat_r, xcat_l, Nat.add_zero, xble0, xble1, xble2, xble3, xble4, xble5, xble6, xble7, xble8, pk_mul, nI_add, nI_1, nI_leI, nI_ltI, nI_eq, n_in, n_cl, z_eq, z_lt, z_le, z_gt, z_ge, z_qe, o_eq, o_lt, o_le, o_gt, o_ge, vp0, vp1, cl0, cl1, n_sub, n_sub1, n_pm1, n_a0, n_0a, ofn, lN0, Nat.reduceLT, Nat.reduceLeDiff, Nat.reduceMul, Nat.reduceSub, Nat.reduceEqDiff, ne_eq, true_implies, false_implies, not_true_eq_false, not_false_eq_true, and_self, and_true, true_and, and_false, false_and, implies_true, if_true, if_false, i00, i10, i01, i11, ob_0, ob_1, tn_2, ln_2, ob_3, tn_4, ln_4, ob_5, tn_6, ln_6, tn_7, ln_7, ob_8, tn_9, ln_9, tn_10, ln_10, tn_11, ln_11, tn_12, ln_12, tn_13, ln_13, tn_14, ln_14, tn_15, ln_15, tn_16, ln_16, tn_17, ln_17, ob_18, tn_19, ln_19, tn_20, ln_20, tn_21, ln_21, tn_22, ln_22, tn_23, ln_23, tn_24, ln_24, tn_25, ln_25, tn_26, ln_26, tn_27, ln_27, ob_28, tn_29, ln_29, tn_30, ln_30, ob_31, tn_32, ln_32, tn_33, ln_33, ob_34, ob_35, tn_36, ln_36, tn_37, ln_37, tn_38, ln_38, ob_39, tn_40, ln_40, tn_41, ln_41, tn_42, ln_42, tn_43, ln_43, tn_44, ln_44, tn_45, ln_45, tn_46, ln_46, tn_47, ln_47, tn_48, ln_48, tn_49, ln_49, tn_50, ln_50, tn_51, ln_51, ob_52, tn_53, ln_53, tn_54, ln_54, tn_55, ln_55, tn_56, ln_56, ob_57, tn_58, ln_58, tn_59, ln_59, tn_60, ln_60, tn_61, ln_61, tn_62, ln_62, tn_63, ln_63, tn_64, ln_64, tn_65, ln_65, ob_66, tn_67, ln_67, tn_68, ln_68, tn_69, ln_69, tn_70, ln_70, tn_71, ln_71, tn_72, ln_72, tn_73, ln_73, ob_74, tn_75, ln_75, tn_76, ln_76, tn_77, ln_77, tn_78, ln_78, tn_79, ln_79, tn_80, ln_80, tn_81, ln_81, tn_82, ln_82, tn_83, ln_83, ob_84, tn_85, ln_85, tn_86, ln_86, tn_87, ln_87, tn_88, ln_88, tn_89, ln_89, tn_90, ln_90, tn_91, ln_91, tn_92, ln_92, tn_93, ln_93, ob_94, tn_95, ln_95, tn_96, ln_96, tn_97, ln_97, tn_98, ln_98, tn_99, ln_99, tn_100, ln_100, tn_101, ln_101, tn_102, ln_102, tn_103, ln_103, ob_104, tn_105, ln_105, tn_106, ln_106, tn_107, ln_107, tn_108, ln_108, tn_109, ln_109, tn_110, ln_110, tn_111, ln_111, tn_112, ln_112, tn_113, ln_113, ob_114, tn_115, ln_115, tn_116, ln_116, tn_117, ln_117, tn_118, ln_118, tn_119, ln_119, tn_120, ln_120, tn_121, ln_121, tn_122, ln_122, tn_123, ln_123, ob_124, tn_125, ln_125, tn_126, ln_126, tn_127, ln_127, tn_128, ln_128, tn_129, ln_129, tn_130, ln_130, tn_131, ln_131, tn_132, ln_132, tn_133, ln_133, ob_134, tn_135, ln_135, tn_136, ln_136, tn_137, ln_137, tn_138, ln_138, tn_139, ln_139, tn_140, ln_140, tn_141, ln_141, tn_142, ln_142, tn_143, ln_143, ob_144, tn_145, ln_145, tn_146, ln_146, tn_147, ln_147, tn_148, ln_148, tn_149, ln_149, tn_150, ln_150, tn_151, ln_151, tn_152, ln_152, tn_153, ln_153, ob_154, tn_155, ln_155, tn_156, ln_156, tn_157, ln_157, tn_158, ln_158, tn_159, ln_159, tn_160, ln_160, tn_161, ln_161, tn_162, ln_162, tn_163, ln_163, ob_164, tn_165, ln_165, tn_166, ln_166, ob_167, tn_168, ln_168, tn_169, ln_169, tn_170, ln_170, tn_171, ln_171, tn_172, ln_172, tn_173, ln_173, tn_174, ln_174, tn_175, ln_175, tn_176, ln_176, ob_177, tn_178, ln_178, tn_179, ln_179, ob_180, tn_181, ln_181, tn_182, ln_182, tn_183, ln_183, tn_184, ln_184, tn_185, ln_185, tn_186, ln_186, tn_187, ln_187, tn_188, ln_188, tn_189, ln_189, tn_190, ln_190, tn_191, ln_191, tn_192, ln_192, tn_193, ln_193, tn_194, ln_194, tn_195, ln_195, tn_196, ln_196, tn_197, ln_197, tn_198, ln_198, tn_199, ln_199, tn_200, ln_200, tn_201, ln_201, tn_202, ln_202, tn_203, ln_203, tn_204, ln_204, tn_205, ln_205, tn_206, ln_206, tn_207, ln_207, tn_208, ln_208, tn_209, ln_209, tn_210, ln_210, tn_211, ln_211, tn_212, ln_212, tn_213, ln_213, tn_214, ln_214, tn_215, ln_215, tn_216, ln_216, tn_217, ln_217, tn_218, ln_218, tn_219, ln_219, tn_220, ln_220, tn_221, ln_221, tn_222, ln_222, tn_223, ln_223, tn_224, ln_224, tn_225, ln_225, tn_226, ln_226, tn_227, ln_227, tn_228, ln_228, tn_229, ln_229, tn_230, ln_230, lx2, lx3, lx4, lx5, lx6, lx7, lx8, lx9, lx10, lx14, lx15, lx16, lx18, lx20, lx24, lx25, lx27, lx32, lx36, lx40, lx41, lx42, lx43, lx45, lx48, lx52, lx54, lx56, lx57, lx58, lx60, lx61, lx62, lx63, lx64, lx66, lx69, lx73, lx80, lx81, lx84, lx85, lx87, lx94, lx96, lx97, lx120, lx128, lx135, lx160, lx162, lx163, lx165, lx200, lx232, lx242, lx243, lx255, lx256, lx320, lx325, lx400, lx405, lx464, lx512, lx600, lx640, lx752, lx900, lx940, lx1000, lx1024, lx1764, lx3360, lx3840, lx5000, lx6400, lx9050, lx9998, lx9999, lx10000, lx25600, lx76800, lx99999, hl.1, hf p hp]
    refine ⟨fun a => ?_, fun a => ⟨by omega, ?_⟩⟩
    · have e : p = (plL v).length := by omega
      have e2 : cmN (stT v) q = cb (cmB v q) p := by
        show cb (cmB v q) 128 = _
        refine cb_flat (by omega) fun p' h1 _ => bt_f ?_
        rintro ⟨s, -, X, Q, w, -⟩
        have := (List.getElem?_eq_some_iff.mp w).1
        omega
      rw [e2] at hP
      exact hP
    · refine xB1 (b := 80 - p - 1) (by omega) ⟨v, q, p, 0, hG0, by omega, Nat.zero_le _, rfl, rfl, ?_, rfl⟩
      rw [bt_f (p := cmF v p q 0) (fun ⟨y, _, _, w, _⟩ => Nat.not_lt_zero _ w)]
      rfl
  · rintro q x A P - μ L st B ⟨v, q, p, m, hG, hp, hm, rfl, rfl, rfl, rfl⟩
    have hG0 := hG
    obtain ⟨hw, hc, h80, hd, hq, hP⟩ := hG
    obtain ⟨hl, hf, hs⟩ := hd.2 h80
    have c1 := cb_le (cmB v q) p
    have t4 : tN (stT v) p ≤ 960 := by rw [← cb_all hw hc]; exact tY_le hw hc h80
    have b1 := bsY_le hw hc h80 p
    have b2 : bsY v (p + 1) = bsY v p + tN (stT v) p := by rw [← cb_all hw hc]; rfl
    simp (disch := omega) only [k_X12_comers_0, k_X12_comers_4, k_X12_comers_23, k_X12_comers_56, k_X12_comers_61, k_X12_comers_80, x_aload, x_iadd, x_icmp_ge, x_icmp_ne, x_if_eq, x_if_ne, x_iinc, x_iload, x_irem, x_iret, x_istore, x_push, y_getF, y_getI, y_iald, xFT, xbool0, xbool1, Nat.reduceAdd, Nat.zero_add, xgl_0, xgl_s, xgl_n, xst_0, xst_1n, xst_1i, xst_1r, xst_1l, xst_s, set_0, set_s, true_and, and_true, xres, xcat_nil, xcat_i, xcat_r, xcat_l, Nat.add_zero, xble0, xble1, xble2, xble3, xble4, xble5, xble6, xble7, xble8, pk_mul, nI_add, nI_1, nI_leI, nI_ltI, nI_eq, n_in, n_cl, z_eq, z_lt, z_le, z_gt, z_ge, z_qe, o_eq, o_lt, o_le, o_gt, o_ge, vp0, vp1, cl0, cl1, n_sub, n_sub1, n_pm1, n_a0, n_0a, ofn, lN0, Nat.reduceLT, Nat.reduceLeDiff, Nat.reduceMul, Nat.reduceSub, Nat.reduceEqDiff, ne_eq, true_implies, false_implies, not_true_eq_false, not_false_eq_true, and_self, and_true, true_and, and_false, false_and, implies_true, if_true, if_false, i00, i10, i01, i11, ob_0, ob_1, tn_2, ln_2, ob_3, tn_4, ln_4, ob_5, tn_6, ln_6, tn_7, ln_7, ob_8, tn_9, ln_9, tn_10, ln_10, tn_11, ln_11, tn_12, ln_12, tn_13, ln_13, tn_14, ln_14, tn_15, ln_15, tn_16, ln_16, tn_17, ln_17, ob_18, tn_19, ln_19, tn_20, ln_20, tn_21, ln_21, tn_22, ln_22, tn_23, ln_23, tn_24, ln_24, tn_25, ln_25, tn_26, ln_26, tn_27, ln_27, ob_28, tn_29, ln_29, tn_30, ln_30, ob_31, tn_32, ln_32, tn_33, ln_33, ob_34, ob_35, tn_36, ln_36, tn_37, ln_37, tn_38, ln_38, ob_39, tn_40, ln_40, tn_41, ln_41, tn_42, ln_42, tn_43, ln_43, tn_44, ln_44, tn_45, ln_45, tn_46, ln_46, tn_47, ln_47, tn_48, ln_48, tn_49, ln_49, tn_50, ln_50, tn_51, ln_51, ob_52, tn_53, ln_53, tn_54, ln_54, tn_55, ln_55, tn_56, ln_56, ob_57, tn_58, ln_58, tn_59, ln_59, tn_60, ln_60, tn_61, ln_61, tn_62, ln_62, tn_63, ln_63, tn_64, ln_64, tn_65, ln_65, ob_66, tn_67, ln_67, tn_68, ln_68, tn_69, ln_69, tn_70, ln_70, tn_71, ln_71, tn_72, ln_72, tn_73, ln_73, ob_74, tn_75, ln_75, tn_76, ln_76, tn_77, ln_77, tn_78, ln_78, tn_79, ln_79, tn_80, ln_80, tn_81, ln_81, tn_82, ln_82, tn_83, ln_83, ob_84, tn_85, ln_85, tn_86, ln_86, tn_87, ln_87, tn_88, ln_88, tn_89, ln_89, tn_90, ln_90, tn_91, ln_91, tn_92, ln_92, tn_93, ln_93, ob_94, tn_95, ln_95, tn_96, ln_96, tn_97, ln_97, tn_98, ln_98, tn_99, ln_99, tn_100, ln_100, tn_101, ln_101, tn_102, ln_102, tn_103, ln_103, ob_104, tn_105, ln_105, tn_106, ln_106, tn_107, ln_107, tn_108, ln_108, tn_109, ln_109, tn_110, ln_110, tn_111, ln_111, tn_112, ln_112, tn_113, ln_113, ob_114, tn_115, ln_115, tn_116, ln_116, tn_117, ln_117, tn_118, ln_118, tn_119, ln_119, tn_120, ln_120, tn_121, ln_121, tn_122, ln_122, tn_123, ln_123, ob_124, tn_125, ln_125, tn_126, ln_126, tn_127, ln_127, tn_128, ln_128, tn_129, ln_129, tn_130, ln_130, tn_131, ln_131, tn_132, ln_132, tn_133, ln_133, ob_134, tn_135, ln_135, tn_136, ln_136, tn_137, ln_137, tn_138, ln_138, tn_139, ln_139, tn_140, ln_140, tn_141, ln_141, tn_142, ln_142, tn_143, ln_143, ob_144, tn_145, ln_145, tn_146, ln_146, tn_147, ln_147, tn_148, ln_148, tn_149, ln_149, tn_150, ln_150, tn_151, ln_151, tn_152, ln_152, tn_153, ln_153, ob_154, tn_155, ln_155, tn_156, ln_156, tn_157, ln_157, tn_158, ln_158, tn_159, ln_159, tn_160, ln_160, tn_161, ln_161, tn_162, ln_162, tn_163, ln_163, ob_164, tn_165, ln_165, tn_166, ln_166, ob_167, tn_168, ln_168, tn_169, ln_169, tn_170, ln_170, tn_171, ln_171, tn_172, ln_172, tn_173, ln_173, tn_174, ln_174, tn_175, ln_175, tn_176, ln_176, ob_177, tn_178, ln_178, tn_179, ln_179, ob_180, tn_181, ln_181, tn_182, ln_182, tn_183, ln_183, tn_184, ln_184, tn_185, ln_185, tn_186, ln_186, tn_187, ln_187, tn_188, ln_188, tn_189, ln_189, tn_190, ln_190, tn_191, ln_191, tn_192, ln_192, tn_193, ln_193, tn_194, ln_194, tn_195, ln_195, tn_196, ln_196, tn_197, ln_197, tn_198, ln_198, tn_199, ln_199, tn_200, ln_200, tn_201, ln_201, tn_202, ln_202, tn_203, ln_203, tn_204, ln_204, tn_205, ln_205, tn_206, ln_206, tn_207, ln_207, tn_208, ln_208, tn_209, ln_209, tn_210, ln_210, tn_211, ln_211, tn_212, ln_212, tn_213, ln_213, tn_214, ln_214, tn_215, ln_215, tn_216, ln_216, tn_217, ln_217, tn_218, ln_218, tn_219, ln_219, tn_220, ln_220, tn_221, ln_221, tn_222, ln_222, tn_223, ln_223, tn_224, ln_224, tn_225, ln_225, tn_226, ln_226, tn_227, ln_227, tn_228, ln_228, tn_229, ln_229, tn_230, ln_230, lx2, lx3, lx4, lx5, lx6, lx7, lx8, lx9, lx10, lx14, lx15, lx16, lx18, lx20, lx24, lx25, lx27, lx32, lx36, lx40, lx41, lx42, lx43, lx45, lx48, lx52, lx54, lx56, lx57, lx58, lx60, lx61, lx62, lx63, lx64, lx66, lx69, lx73, lx80, lx81, lx84, lx85, lx87, lx94, lx96, lx97, lx120, lx128, lx135, lx160, lx162, lx163, lx165, lx200, lx232, lx242, lx243, lx255, lx256, lx320, lx325, lx400, lx405, lx464, lx512, lx600, lx640, lx752, lx900, lx940, lx1000, lx1024, lx1764, lx3360, lx3840, lx5000, lx6400, lx9050, lx9998, lx9999, lx10000, lx25600, lx76800, lx99999, hf (p + 1) (by omega), b2, bI_t]
    have go : ∀ b : Bool, (b = true ↔ cmF v p q (m + 1)) → m < tN (stT v) p → xB (cm23 B P) (80 - p - 1, 1, 1000 - m) [some (.ref 180), some (.int (nI q)), some (.int (nI (cb (cmB v q) p))), some (.int (nI p)), some (.int (bI b)), some (.int (nI (bsY v p + m + 1)))] [] B := fun b hb hlt => by
      refine xB3 (d := 1000 - (m + 1)) (by omega) ⟨v, q, p, m + 1, hG0, hp, by omega, rfl, rfl, ?_, rfl⟩
      rw [← b_ext (hb.trans bt_iff.symm), Nat.add_assoc]
    have fin : ∀ n, n = cb (cmB v q) (p + 1) → xB (cm4 B P) (80 - p - 1, 1, 1000 - m) [some (.ref 180), some (.int (nI q)), some (.int (nI n)), some (.int (nI (p + 1))), some (.int (bI (bt (cmF v p q m)))), some (.int (nI (bsY v p + m)))] [] B := fun n hn => by
      subst hn
      exact xB2 (c := 0) (by omega) ⟨v, q, p + 1, _, _, hG0, by omega, rfl, rfl, rfl, rfl⟩
    refine ⟨by omega, fun a => ?_, fun a => ?_⟩
    · have e : m = tN (stT v) p := by omega
      have eb : bt (cmF v p q m) = cmB v q p := by
        rw [e]
        exact bt_congr (cmF_all hw hc (by omega))
      refine ⟨fun z => fin _ ?_, fun z => fin _ ?_⟩
      · rw [cb_s, ← eb, z]; rfl
      · rw [cb_s, ← eb, show bt (cmF v p q m) = true by cases w : bt (cmF v p q m); exact absurd w z; rfl]; rfl
    · have hlt : m < cb (tY v p) 5376 := by rw [cb_all hw hc]; omega
      obtain ⟨y, y1, y2, y3⟩ := cb_sel hlt
      have hst := hs p hp y y1 y2
      rw [y3] at hst
      refine ⟨fun z => go true ⟨fun _ => ?_, fun _ => rfl⟩ (by omega), fun z => ⟨by omega, ?_⟩⟩
      · have z2 : cmF v p q m := Classical.byContradiction fun w => z (bt_f w)
        obtain ⟨y', w1, w2, w3, w4⟩ := z2
        exact ⟨y', w1, w2, by omega, w4⟩
      · have z2 : ¬ cmF v p q m := fun w => by rw [bt_t w] at z; cases z
        rw [hst]
        simp (disch := omega) only [pk_mul, nI_add, nI_1, nI_leI, nI_ltI, nI_eq, n_in, n_cl, z_eq, z_lt, z_le, z_gt, z_ge, z_qe, o_eq, o_lt, o_le, o_gt, o_ge, vp0, vp1, cl0, cl1, n_sub, n_sub1, n_pm1, n_a0, n_0a, ofn, lN0, Nat.reduceLT, Nat.reduceLeDiff, Nat.reduceMul, Nat.reduceSub, Nat.reduceEqDiff, ne_eq, true_implies, false_implies, not_true_eq_false, not_false_eq_true, and_self, and_true, true_and, and_false, false_and, implies_true, if_true, if_false, i00, i10, i01, i11, ob_0, ob_1, tn_2, ln_2, ob_3, tn_4, ln_4, ob_5, tn_6, ln_6, tn_7, ln_7, ob_8, tn_9, ln_9, tn_10, ln_10, tn_11, ln_11, tn_12, ln_12, tn_13, ln_13, tn_14, ln_14, tn_15, ln_15, tn_16, ln_16, tn_17, ln_17, ob_18, tn_19, ln_19, tn_20, ln_20, tn_21, ln_21, tn_22, ln_22, tn_23, ln_23, tn_24, ln_24, tn_25, ln_25, tn_26, ln_26, tn_27, ln_27, ob_28, tn_29, ln_29, tn_30, ln_30, ob_31, tn_32, ln_32, tn_33, ln_33, ob_34, ob_35, tn_36, ln_36, tn_37, ln_37, tn_38, ln_38, ob_39, tn_40, ln_40, tn_41, ln_41, tn_42, ln_42, tn_43, ln_43, tn_44, ln_44, tn_45, ln_45, tn_46, ln_46, tn_47, ln_47, tn_48, ln_48, tn_49, ln_49, tn_50, ln_50, tn_51, ln_51, ob_52, tn_53, ln_53, tn_54, ln_54, tn_55, ln_55, tn_56, ln_56, ob_57, tn_58, ln_58, tn_59, ln_59, tn_60, ln_60, tn_61, ln_61, tn_62, ln_62, tn_63, ln_63, tn_64, ln_64, tn_65, ln_65, ob_66, tn_67, ln_67, tn_68, ln_68, tn_69, ln_69, tn_70, ln_70, tn_71, ln_71, tn_72, ln_72, tn_73, ln_73, ob_74, tn_75, ln_75, tn_76, ln_76, tn_77, ln_77, tn_78, ln_78, tn_79, ln_79, tn_80, ln_80, tn_81, ln_81, tn_82, ln_82, tn_83, ln_83, ob_84, tn_85, ln_85, tn_86, ln_86, tn_87, ln_87, tn_88, ln_88, tn_89, ln_89, tn_90, ln_90, tn_91, ln_91, tn_92, ln_92, tn_93, ln_93, ob_94, tn_95, ln_95, tn_96, ln_96, tn_97, ln_97, tn_98, ln_98, tn_99, ln_99, tn_100, ln_100, tn_101, ln_101, tn_102, ln_102, tn_103, ln_103, ob_104, tn_105, ln_105, tn_106, ln_106, tn_107, ln_107, tn_108, ln_108, tn_109, ln_109, tn_110, ln_110, tn_111, ln_111, tn_112, ln_112, tn_113, ln_113, ob_114, tn_115, ln_115, tn_116, ln_116, tn_117, ln_117, tn_118, ln_118, tn_119, ln_119, tn_120, ln_120, tn_121, ln_121, tn_122, ln_122, tn_123, ln_123, ob_124, tn_125, ln_125, tn_126, ln_126, tn_127, ln_127, tn_128, ln_128, tn_129, ln_129, tn_130, ln_130, tn_131, ln_131, tn_132, ln_132, tn_133, ln_133, ob_134, tn_135, ln_135, tn_136, ln_136, tn_137, ln_137, tn_138, ln_138, tn_139, ln_139, tn_140, ln_140, tn_141, ln_141, tn_142, ln_142, tn_143, ln_143, ob_144, tn_145, ln_145, tn_146, ln_146, tn_147, ln_147, tn_148, ln_148, tn_149, ln_149, tn_150, ln_150, tn_151, ln_151, tn_152, ln_152, tn_153, ln_153, ob_154, tn_155, ln_155, tn_156, ln_156, tn_157, ln_157, tn_158, ln_158, tn_159, ln_159, tn_160, ln_160, tn_161, ln_161, tn_162, ln_162, tn_163, ln_163, ob_164, tn_165, ln_165, tn_166, ln_166, ob_167, tn_168, ln_168, tn_169, ln_169, tn_170, ln_170, tn_171, ln_171, tn_172, ln_172, tn_173, ln_173, tn_174, ln_174, tn_175, ln_175, tn_176, ln_176, ob_177, tn_178, ln_178, tn_179, ln_179, ob_180, tn_181, ln_181, tn_182, ln_182, tn_183, ln_183, tn_184, ln_184, tn_185, ln_185, tn_186, ln_186, tn_187, ln_187, tn_188, ln_188, tn_189, ln_189, tn_190, ln_190, tn_191, ln_191, tn_192, ln_192, tn_193, ln_193, tn_194, ln_194, tn_195, ln_195, tn_196, ln_196, tn_197, ln_197, tn_198, ln_198, tn_199, ln_199, tn_200, ln_200, tn_201, ln_201, tn_202, ln_202, tn_203, ln_203, tn_204, ln_204, tn_205, ln_205, tn_206, ln_206, tn_207, ln_207, tn_208, ln_208, tn_209, ln_209, tn_210, ln_210, tn_211, ln_211, tn_212, ln_212, tn_213, ln_213, tn_214, ln_214, tn_215, ln_215, tn_216, ln_216, tn_217, ln_217, tn_218, ln_218, tn_219, ln_219, tn_220, ln_220, tn_221, ln_221, tn_222, ln_222, tn_223, ln_223, tn_224, ln_224, tn_225, ln_225, tn_226, ln_226, tn_227, ln_227, tn_228, ln_228, tn_229, ln_229, tn_230, ln_230, lx2, lx3, lx4, lx5, lx6, lx7, lx8, lx9, lx10, lx14, lx15, lx16, lx18, lx20, lx24, lx25, lx27, lx32, lx36, lx40, lx41, lx42, lx43, lx45, lx48, lx52, lx54, lx56, lx57, lx58, lx60, lx61, lx62, lx63, lx64, lx66, lx69, lx73, lx80, lx81, lx84, lx85, lx87, lx94, lx96, lx97, lx120, lx128, lx135, lx160, lx162, lx163, lx165, lx200, lx232, lx242, lx243, lx255, lx256, lx320, lx325, lx400, lx405, lx464, lx512, lx600, lx640, lx752, lx900, lx940, lx1000, lx1024, lx1764, lx3360, lx3840, lx5000, lx6400, lx9050, lx9998, lx9999, lx10000, lx25600, lx76800, lx99999, pk_div]
        refine ⟨fun w => go false ⟨fun h => (by cases h), ?_⟩ (by omega), fun w => go true ⟨fun _ => ⟨y, y1, y2, by omega, by omega⟩, fun _ => rfl⟩ (by omega)⟩
        rintro ⟨y', w1, w2, w3, w4⟩
        by_cases e : cb (tY v p) y' = m
        · have := cb_uni w2 y2 (by omega)
          subst this
          omega
        · exact absurd ⟨y', w1, w2, by omega, w4⟩ z2

