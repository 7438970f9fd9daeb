/-! ===== the class's enterAll, leaveBeyond ===== -/
theorem d_X10_enterAll_0 : decode cX10_enterAll 0 = .ok (.lload_n 2, 1) := by decide +kernel
theorem d_X10_enterAll_1 : decode cX10_enterAll 1 = .ok (.lstore 9, 2) := by decide +kernel
theorem d_X10_enterAll_3 : decode cX10_enterAll 3 = .ok (.iconst 0, 1) := by decide +kernel
theorem d_X10_enterAll_4 : decode cX10_enterAll 4 = .ok (.istore 11, 2) := by decide +kernel
theorem d_X10_enterAll_6 : decode cX10_enterAll 6 = .ok (.iload 11, 2) := by decide +kernel
theorem d_X10_enterAll_8 : decode cX10_enterAll 8 = .ok (.bipush 64, 2) := by decide +kernel
theorem d_X10_enterAll_10 : decode cX10_enterAll 10 = .ok (.if_icmp .ge 74, 3) := by decide +kernel
theorem d_X10_enterAll_13 : decode cX10_enterAll 13 = .ok (.lload 9, 2) := by decide +kernel
theorem d_X10_enterAll_15 : decode cX10_enterAll 15 = .ok (.lconst 0, 1) := by decide +kernel
theorem d_X10_enterAll_16 : decode cX10_enterAll 16 = .ok (.lcmp, 1) := by decide +kernel
theorem d_X10_enterAll_17 : decode cX10_enterAll 17 = .ok (.ifCond .eq 67, 3) := by decide +kernel
theorem d_X10_enterAll_20 : decode cX10_enterAll 20 = .ok (.iload_n 1, 1) := by decide +kernel
theorem d_X10_enterAll_21 : decode cX10_enterAll 21 = .ok (.bipush 80, 2) := by decide +kernel
theorem d_X10_enterAll_23 : decode cX10_enterAll 23 = .ok (.imul, 1) := by decide +kernel
theorem d_X10_enterAll_24 : decode cX10_enterAll 24 = .ok (.iload 4, 2) := by decide +kernel
theorem d_X10_enterAll_26 : decode cX10_enterAll 26 = .ok (.iadd, 1) := by decide +kernel
theorem d_X10_enterAll_27 : decode cX10_enterAll 27 = .ok (.lload 9, 2) := by decide +kernel
theorem d_X10_enterAll_29 : decode cX10_enterAll 29 = .ok (.lload 9, 2) := by decide +kernel
theorem d_X10_enterAll_31 : decode cX10_enterAll 31 = .ok (.lneg, 1) := by decide +kernel
theorem d_X10_enterAll_32 : decode cX10_enterAll 32 = .ok (.land, 1) := by decide +kernel
theorem d_X10_enterAll_33 : decode cX10_enterAll 33 = .ok (.lconst 1, 1) := by decide +kernel
theorem d_X10_enterAll_34 : decode cX10_enterAll 34 = .ok (.lsub, 1) := by decide +kernel
theorem d_X10_enterAll_35 : decode cX10_enterAll 35 = .ok (.invokestatic 63, 3) := by decide +kernel
theorem d_X10_enterAll_38 : decode cX10_enterAll 38 = .ok (.iadd, 1) := by decide +kernel
theorem d_X10_enterAll_39 : decode cX10_enterAll 39 = .ok (.iconst 2, 1) := by decide +kernel
theorem d_X10_enterAll_40 : decode cX10_enterAll 40 = .ok (.imul, 1) := by decide +kernel
theorem d_X10_enterAll_41 : decode cX10_enterAll 41 = .ok (.istore 12, 2) := by decide +kernel
theorem d_X10_enterAll_43 : decode cX10_enterAll 43 = .ok (.aload_n 0, 1) := by decide +kernel
theorem d_X10_enterAll_44 : decode cX10_enterAll 44 = .ok (.aload_n 0, 1) := by decide +kernel
theorem d_X10_enterAll_45 : decode cX10_enterAll 45 = .ok (.getfield 11, 3) := by decide +kernel
theorem d_X10_enterAll_48 : decode cX10_enterAll 48 = .ok (.iload 12, 2) := by decide +kernel
theorem d_X10_enterAll_50 : decode cX10_enterAll 50 = .ok (.lload 5, 2) := by decide +kernel
theorem d_X10_enterAll_52 : decode cX10_enterAll 52 = .ok (.invokevirtual 57, 3) := by decide +kernel
theorem d_X10_enterAll_55 : decode cX10_enterAll 55 = .ok (.aload_n 0, 1) := by decide +kernel
theorem d_X10_enterAll_56 : decode cX10_enterAll 56 = .ok (.aload_n 0, 1) := by decide +kernel
theorem d_X10_enterAll_57 : decode cX10_enterAll 57 = .ok (.getfield 11, 3) := by decide +kernel
theorem d_X10_enterAll_60 : decode cX10_enterAll 60 = .ok (.iload 12, 2) := by decide +kernel
theorem d_X10_enterAll_62 : decode cX10_enterAll 62 = .ok (.iconst 1, 1) := by decide +kernel
theorem d_X10_enterAll_63 : decode cX10_enterAll 63 = .ok (.iadd, 1) := by decide +kernel
theorem d_X10_enterAll_64 : decode cX10_enterAll 64 = .ok (.lload 7, 2) := by decide +kernel
theorem d_X10_enterAll_66 : decode cX10_enterAll 66 = .ok (.invokevirtual 57, 3) := by decide +kernel
theorem d_X10_enterAll_69 : decode cX10_enterAll 69 = .ok (.lload 9, 2) := by decide +kernel
theorem d_X10_enterAll_71 : decode cX10_enterAll 71 = .ok (.lload 9, 2) := by decide +kernel
theorem d_X10_enterAll_73 : decode cX10_enterAll 73 = .ok (.lconst 1, 1) := by decide +kernel
theorem d_X10_enterAll_74 : decode cX10_enterAll 74 = .ok (.lsub, 1) := by decide +kernel
theorem d_X10_enterAll_75 : decode cX10_enterAll 75 = .ok (.land, 1) := by decide +kernel
theorem d_X10_enterAll_76 : decode cX10_enterAll 76 = .ok (.lstore 9, 2) := by decide +kernel
theorem d_X10_enterAll_78 : decode cX10_enterAll 78 = .ok (.iinc 11 1, 3) := by decide +kernel
theorem d_X10_enterAll_81 : decode cX10_enterAll 81 = .ok (.goto (-75), 3) := by decide +kernel
theorem d_X10_enterAll_84 : decode cX10_enterAll 84 = .ok (.return_, 1) := by decide +kernel
def k_X10_enterAll_0 (P : xP) (C6 : xK) : xK := x_lload 2 (x_lstore 9 (x_push (.int 0) (x_istore 11 (C6))))
set_option maxRecDepth 20000 in
theorem t_X10_enterAll_0 {p : Program} {l : Launch} {e : Env} {s : State} {m : MethodId} {args : Array Value} {below : List Frame} {meth : Method} {c : Code} {g : xG} (X : xX p s m args c meth cX10_enterAll RX10 13 g) (hr : meth.sig.returnType = none) {P : xP} {C6 : xK} (h6 : xAt p l e { frames := 2, cells := 0, slots := 0, locals := 49 } s m args below meth c g 13 xFT xN 0 0 (MQ below (xQc g xFT xN P) args s 0 0 (xFr g)) C6 6) : xAt p l e { frames := 2, cells := 0, slots := 0, locals := 49 } s m args below meth c g 13 xFT xN 0 0 (MQ below (xQc g xFT xN P) args s 0 0 (xFr g)) (k_X10_enterAll_0 P C6) 0 := by
  unfold k_X10_enterAll_0
  refine r_lload_n (pc := 0) X d_X10_enterAll_0 fn2 ?_
  refine r_lstore (pc := 1) X d_X10_enterAll_1 (by decide +kernel) ?_
  refine r_iconst (pc := 3) X d_X10_enterAll_3 (by decide +kernel) ?_
  refine r_istore (pc := 4) X d_X10_enterAll_4 (by decide +kernel) ?_
  exact h6
def k_X10_enterAll_84 (P : xP) : xK := x_vret P
set_option maxRecDepth 20000 in
theorem t_X10_enterAll_84 {p : Program} {l : Launch} {e : Env} {s : State} {m : MethodId} {args : Array Value} {below : List Frame} {meth : Method} {c : Code} {g : xG} (X : xX p s m args c meth cX10_enterAll RX10 13 g) (hr : meth.sig.returnType = none) {P : xP} : xAt p l e { frames := 2, cells := 0, slots := 0, locals := 49 } s m args below meth c g 13 xFT xN 0 0 (MQ below (xQc g xFT xN P) args s 0 0 (xFr g)) (k_X10_enterAll_84 P) 84 := by
  unfold k_X10_enterAll_84
  exact r_vret (pc := 84) X hr d_X10_enterAll_84
def k_X10_enterAll_6 (P : xP) (C6 : xK) : xK := x_iload 11 (x_push (.int 64) (x_icmp_ge ((k_X10_enterAll_84 P)) (x_lload 9 (x_push (.long 0) (x_lcmp (x_if_eq ((k_X10_enterAll_84 P)) (x_iload 1 (x_push (.int 80) (x_imul (x_iload 4 (x_iadd (x_lload 9 (x_lload 9 (x_lneg (x_land (x_push (.long 1) (x_lsub (x_cs1 (w_J f_J13_bitCount_95d88) (x_iadd (x_push (.int 2) (x_imul (x_istore 12 (x_aload 0 (x_aload 0 (y_getF 52 53 (x_iload 12 (x_lload 5 (y_cv3 52 (w_RRIJ f_X10_enter) (x_aload 0 (x_aload 0 (y_getF 52 53 (x_iload 12 (x_push (.int 1) (x_iadd (x_lload 7 (y_cv3 52 (w_RRIJ f_X10_enter) (x_lload 9 (x_lload 9 (x_push (.long 1) (x_lsub (x_land (x_lstore 9 (x_iinc 11 1 (C6))))))))))))))))))))))))))))))))))))))))))))
set_option maxRecDepth 20000 in
theorem t_X10_enterAll_6 {p : Program} {l : Launch} {e : Env} {s : State} {m : MethodId} {args : Array Value} {below : List Frame} {meth : Method} {c : Code} {g : xG} (X : xX p s m args c meth cX10_enterAll RX10 13 g) (hr : meth.sig.returnType = none) {P : xP} {C6 : xK} (h6 : xAt p l e { frames := 2, cells := 0, slots := 0, locals := 49 } s m args below meth c g 13 xFT xN 0 0 (MQ below (xQc g xFT xN P) args s 0 0 (xFr g)) C6 6) : xAt p l e { frames := 2, cells := 0, slots := 0, locals := 49 } s m args below meth c g 13 xFT xN 0 0 (MQ below (xQc g xFT xN P) args s 0 0 (xFr g)) (k_X10_enterAll_6 P C6) 6 := by
  unfold k_X10_enterAll_6
  refine r_iload (pc := 6) X d_X10_enterAll_6 ?_
  refine r_bipush (pc := 8) X d_X10_enterAll_8 (by decide +kernel) ?_
  refine r_icmp_ge (pc := 10) (tgt := 84) X d_X10_enterAll_10 (by decide +kernel) ?_ ?_
  · exact t_X10_enterAll_84 X hr
  · refine r_lload (pc := 13) X d_X10_enterAll_13 ?_
    refine r_lconst (pc := 15) X d_X10_enterAll_15 (by decide +kernel) ?_
    refine r_lcmp (pc := 16) X d_X10_enterAll_16 ?_
    refine r_if_eq (pc := 17) (tgt := 84) X d_X10_enterAll_17 (by decide +kernel) ?_ ?_
    · exact t_X10_enterAll_84 X hr
    · refine r_iload_n (pc := 20) X d_X10_enterAll_20 fn1 ?_
      refine r_bipush (pc := 21) X d_X10_enterAll_21 (by decide +kernel) ?_
      refine r_imul (pc := 23) X d_X10_enterAll_23 ?_
      refine r_iload (pc := 24) X d_X10_enterAll_24 ?_
      refine r_iadd (pc := 26) X d_X10_enterAll_26 ?_
      refine r_lload (pc := 27) X d_X10_enterAll_27 ?_
      refine r_lload (pc := 29) X d_X10_enterAll_29 ?_
      refine r_lneg (pc := 31) X d_X10_enterAll_31 ?_
      refine r_land (pc := 32) X d_X10_enterAll_32 ?_
      refine r_lconst (pc := 33) X d_X10_enterAll_33 (by decide +kernel) ?_
      refine r_lsub (pc := 34) X d_X10_enterAll_34 ?_
      refine r_cs1 (pc := 35) X (con_J13_bitCount_95d88 l) sf_J13_bitCount_95d88 ml_RX10_63 (by decide +kernel) (by decide +kernel) d_X10_enterAll_35 ?_
      refine r_iadd (pc := 38) X d_X10_enterAll_38 ?_
      refine r_iconst (pc := 39) X d_X10_enterAll_39 (by decide +kernel) ?_
      refine r_imul (pc := 40) X d_X10_enterAll_40 ?_
      refine r_istore (pc := 41) X d_X10_enterAll_41 (by decide +kernel) ?_
      refine r_aload_n (pc := 43) X d_X10_enterAll_43 fn0 ?_
      refine r_aload_n (pc := 44) X d_X10_enterAll_44 fn0 ?_
      refine s_getF (pc := 45) (ci := 10) (k := 4) X xok10 (by decide +kernel) ob_52 trivial ly_52_4 (by decide +kernel) fl_RX10_11 d_X10_enterAll_45 ?_
      refine r_iload (pc := 48) X d_X10_enterAll_48 ?_
      refine r_lload (pc := 50) X d_X10_enterAll_50 ?_
      refine s_cv3 (pc := 52) (ci := 10) X xok10 (by decide +kernel) ob_52 rfl (con_X10_enter l) mf_X10_enter ml_RX10_57 (by decide +kernel) (by decide +kernel) d_X10_enterAll_52 ?_
      refine r_aload_n (pc := 55) X d_X10_enterAll_55 fn0 ?_
      refine r_aload_n (pc := 56) X d_X10_enterAll_56 fn0 ?_
      refine s_getF (pc := 57) (ci := 10) (k := 4) X xok10 (by decide +kernel) ob_52 trivial ly_52_4 (by decide +kernel) fl_RX10_11 d_X10_enterAll_57 ?_
      refine r_iload (pc := 60) X d_X10_enterAll_60 ?_
      refine r_iconst (pc := 62) X d_X10_enterAll_62 (by decide +kernel) ?_
      refine r_iadd (pc := 63) X d_X10_enterAll_63 ?_
      refine r_lload (pc := 64) X d_X10_enterAll_64 ?_
      refine s_cv3 (pc := 66) (ci := 10) X xok10 (by decide +kernel) ob_52 rfl (con_X10_enter l) mf_X10_enter ml_RX10_57 (by decide +kernel) (by decide +kernel) d_X10_enterAll_66 ?_
      refine r_lload (pc := 69) X d_X10_enterAll_69 ?_
      refine r_lload (pc := 71) X d_X10_enterAll_71 ?_
      refine r_lconst (pc := 73) X d_X10_enterAll_73 (by decide +kernel) ?_
      refine r_lsub (pc := 74) X d_X10_enterAll_74 ?_
      refine r_land (pc := 75) X d_X10_enterAll_75 ?_
      refine r_lstore (pc := 76) X d_X10_enterAll_76 (by decide +kernel) ?_
      refine r_iinc (pc := 78) X d_X10_enterAll_78 (by decide +kernel) (by decide +kernel) ?_
      refine r_goto (pc := 81) (tgt := 6) X d_X10_enterAll_81 (by decide +kernel) ?_
      exact h6
set_option maxRecDepth 20000 in
theorem m_X10_enterAll {l : Launch} {f : Nat → Int32 → Int64 → Int32 → Int64 → Int64 → xH → xP → Prop}  {I6 : Nat → Int32 → Int64 → Int32 → Int64 → Int64 → xH → xP → xM → xK}
    (v0 : ∀ (a0 : Nat) (a1 : Int32) (a2 : Int64) (a3 : Int32) (a4 : Int64) (a5 : Int64) (A : xH) (P : xP), f a0 a1 a2 a3 a4 a5 A P → k_X10_enterAll_0 P (xE (I6 a0 a1 a2 a3 a4 a5 A P)) [some (.ref a0), some (.int a1), some (.long a2), none, some (.int a3), some (.long a4), none, some (.long a5), none, none, none, none, none] [] A)
    (v6 : ∀ (a0 : Nat) (a1 : Int32) (a2 : Int64) (a3 : Int32) (a4 : Int64) (a5 : Int64) (A : xH) (P : xP), f a0 a1 a2 a3 a4 a5 A P → ∀ (μ : xM) (L : xL) (st : List Value) (B : xH), I6 a0 a1 a2 a3 a4 a5 A P μ L st B → k_X10_enterAll_6 P (xB (I6 a0 a1 a2 a3 a4 a5 A P) μ) L st B) : xCon l yX10_enterAll cX10_enterAll 13 none 2 49 xN xN 0 xFT xFT (w_RIJIJJ f) := by
  refine xc_RIJIJJ (plainFor_of_name pn_RX10) (by decide +kernel) (fun p e s m args below meth c g a0 a1 a2 a3 a4 a5 A P h X hr _ => ?_)
  have h6 := x_loop1 (p := p) (l := l) (e := e) (R := { frames := 2, cells := 0, slots := 0, locals := 49 }) (s := s) (m := m) (args := args) (below := below) (meth := meth) (c := c) (g := g) (nL := 13) (F := xFT) (n := xN) (cells := 0) (slots := 0) (Q := MQ below (xQc g xFT xN P) args s 0 0 (xFr g)) (I := I6 a0 a1 a2 a3 a4 a5 A P) (pc1 := 6) (fun μ i6 => xAt_mono (t_X10_enterAll_6 (P := P) X hr i6) (v6 a0 a1 a2 a3 a4 a5 A P h μ))
  exact ⟨_, v0 a0 a1 a2 a3 a4 a5 A P h, t_X10_enterAll_0 X hr h6⟩
theorem d_X10_leaveBeyond_0 : decode cX10_leaveBeyond 0 = .ok (.lload_n 2, 1) := by decide +kernel
theorem d_X10_leaveBeyond_1 : decode cX10_leaveBeyond 1 = .ok (.lstore 9, 2) := by decide +kernel
theorem d_X10_leaveBeyond_3 : decode cX10_leaveBeyond 3 = .ok (.iconst 0, 1) := by decide +kernel
theorem d_X10_leaveBeyond_4 : decode cX10_leaveBeyond 4 = .ok (.istore 11, 2) := by decide +kernel
theorem d_X10_leaveBeyond_6 : decode cX10_leaveBeyond 6 = .ok (.iload 11, 2) := by decide +kernel
theorem d_X10_leaveBeyond_8 : decode cX10_leaveBeyond 8 = .ok (.bipush 64, 2) := by decide +kernel
theorem d_X10_leaveBeyond_10 : decode cX10_leaveBeyond 10 = .ok (.if_icmp .ge 76, 3) := by decide +kernel
theorem d_X10_leaveBeyond_13 : decode cX10_leaveBeyond 13 = .ok (.lload 9, 2) := by decide +kernel
theorem d_X10_leaveBeyond_15 : decode cX10_leaveBeyond 15 = .ok (.lconst 0, 1) := by decide +kernel
theorem d_X10_leaveBeyond_16 : decode cX10_leaveBeyond 16 = .ok (.lcmp, 1) := by decide +kernel
theorem d_X10_leaveBeyond_17 : decode cX10_leaveBeyond 17 = .ok (.ifCond .eq 69, 3) := by decide +kernel
theorem d_X10_leaveBeyond_20 : decode cX10_leaveBeyond 20 = .ok (.iload_n 1, 1) := by decide +kernel
theorem d_X10_leaveBeyond_21 : decode cX10_leaveBeyond 21 = .ok (.bipush 80, 2) := by decide +kernel
theorem d_X10_leaveBeyond_23 : decode cX10_leaveBeyond 23 = .ok (.imul, 1) := by decide +kernel
theorem d_X10_leaveBeyond_24 : decode cX10_leaveBeyond 24 = .ok (.iload 4, 2) := by decide +kernel
theorem d_X10_leaveBeyond_26 : decode cX10_leaveBeyond 26 = .ok (.iadd, 1) := by decide +kernel
theorem d_X10_leaveBeyond_27 : decode cX10_leaveBeyond 27 = .ok (.lload 9, 2) := by decide +kernel
theorem d_X10_leaveBeyond_29 : decode cX10_leaveBeyond 29 = .ok (.lload 9, 2) := by decide +kernel
theorem d_X10_leaveBeyond_31 : decode cX10_leaveBeyond 31 = .ok (.lneg, 1) := by decide +kernel
theorem d_X10_leaveBeyond_32 : decode cX10_leaveBeyond 32 = .ok (.land, 1) := by decide +kernel
theorem d_X10_leaveBeyond_33 : decode cX10_leaveBeyond 33 = .ok (.lconst 1, 1) := by decide +kernel
theorem d_X10_leaveBeyond_34 : decode cX10_leaveBeyond 34 = .ok (.lsub, 1) := by decide +kernel
theorem d_X10_leaveBeyond_35 : decode cX10_leaveBeyond 35 = .ok (.invokestatic 63, 3) := by decide +kernel
theorem d_X10_leaveBeyond_38 : decode cX10_leaveBeyond 38 = .ok (.iadd, 1) := by decide +kernel
theorem d_X10_leaveBeyond_39 : decode cX10_leaveBeyond 39 = .ok (.istore 12, 2) := by decide +kernel
theorem d_X10_leaveBeyond_41 : decode cX10_leaveBeyond 41 = .ok (.aload_n 0, 1) := by decide +kernel
theorem d_X10_leaveBeyond_42 : decode cX10_leaveBeyond 42 = .ok (.getfield 18, 3) := by decide +kernel
theorem d_X10_leaveBeyond_45 : decode cX10_leaveBeyond 45 = .ok (.iload 12, 2) := by decide +kernel
theorem d_X10_leaveBeyond_47 : decode cX10_leaveBeyond 47 = .ok (.iconst 2, 1) := by decide +kernel
theorem d_X10_leaveBeyond_48 : decode cX10_leaveBeyond 48 = .ok (.imul, 1) := by decide +kernel
theorem d_X10_leaveBeyond_49 : decode cX10_leaveBeyond 49 = .ok (.dup2, 1) := by decide +kernel
theorem d_X10_leaveBeyond_50 : decode cX10_leaveBeyond 50 = .ok (.laload, 1) := by decide +kernel
theorem d_X10_leaveBeyond_51 : decode cX10_leaveBeyond 51 = .ok (.lload 5, 2) := by decide +kernel
theorem d_X10_leaveBeyond_53 : decode cX10_leaveBeyond 53 = .ok (.lor, 1) := by decide +kernel
theorem d_X10_leaveBeyond_54 : decode cX10_leaveBeyond 54 = .ok (.lastore, 1) := by decide +kernel
theorem d_X10_leaveBeyond_55 : decode cX10_leaveBeyond 55 = .ok (.aload_n 0, 1) := by decide +kernel
theorem d_X10_leaveBeyond_56 : decode cX10_leaveBeyond 56 = .ok (.getfield 18, 3) := by decide +kernel
theorem d_X10_leaveBeyond_59 : decode cX10_leaveBeyond 59 = .ok (.iload 12, 2) := by decide +kernel
theorem d_X10_leaveBeyond_61 : decode cX10_leaveBeyond 61 = .ok (.iconst 2, 1) := by decide +kernel
theorem d_X10_leaveBeyond_62 : decode cX10_leaveBeyond 62 = .ok (.imul, 1) := by decide +kernel
theorem d_X10_leaveBeyond_63 : decode cX10_leaveBeyond 63 = .ok (.iconst 1, 1) := by decide +kernel
theorem d_X10_leaveBeyond_64 : decode cX10_leaveBeyond 64 = .ok (.iadd, 1) := by decide +kernel
theorem d_X10_leaveBeyond_65 : decode cX10_leaveBeyond 65 = .ok (.dup2, 1) := by decide +kernel
theorem d_X10_leaveBeyond_66 : decode cX10_leaveBeyond 66 = .ok (.laload, 1) := by decide +kernel
theorem d_X10_leaveBeyond_67 : decode cX10_leaveBeyond 67 = .ok (.lload 7, 2) := by decide +kernel
theorem d_X10_leaveBeyond_69 : decode cX10_leaveBeyond 69 = .ok (.lor, 1) := by decide +kernel
theorem d_X10_leaveBeyond_70 : decode cX10_leaveBeyond 70 = .ok (.lastore, 1) := by decide +kernel
theorem d_X10_leaveBeyond_71 : decode cX10_leaveBeyond 71 = .ok (.lload 9, 2) := by decide +kernel
theorem d_X10_leaveBeyond_73 : decode cX10_leaveBeyond 73 = .ok (.lload 9, 2) := by decide +kernel
theorem d_X10_leaveBeyond_75 : decode cX10_leaveBeyond 75 = .ok (.lconst 1, 1) := by decide +kernel
theorem d_X10_leaveBeyond_76 : decode cX10_leaveBeyond 76 = .ok (.lsub, 1) := by decide +kernel
theorem d_X10_leaveBeyond_77 : decode cX10_leaveBeyond 77 = .ok (.land, 1) := by decide +kernel
theorem d_X10_leaveBeyond_78 : decode cX10_leaveBeyond 78 = .ok (.lstore 9, 2) := by decide +kernel
theorem d_X10_leaveBeyond_80 : decode cX10_leaveBeyond 80 = .ok (.iinc 11 1, 3) := by decide +kernel
theorem d_X10_leaveBeyond_83 : decode cX10_leaveBeyond 83 = .ok (.goto (-77), 3) := by decide +kernel
theorem d_X10_leaveBeyond_86 : decode cX10_leaveBeyond 86 = .ok (.return_, 1) := by decide +kernel
def k_X10_leaveBeyond_0 (P : xP) (C6 : xK) : xK := x_lload 2 (x_lstore 9 (x_push (.int 0) (x_istore 11 (C6))))
set_option maxRecDepth 20000 in
theorem t_X10_leaveBeyond_0 {p : Program} {l : Launch} {e : Env} {s : State} {m : MethodId} {args : Array Value} {below : List Frame} {meth : Method} {c : Code} {g : xG} (X : xX p s m args c meth cX10_leaveBeyond RX10 13 g) (hr : meth.sig.returnType = none) {P : xP} {C6 : xK} (h6 : xAt p l e { frames := 1, cells := 0, slots := 0, locals := 21 } s m args below meth c g 13 xFT xN 0 0 (MQ below (xQc g xFT xN P) args s 0 0 (xFr g)) C6 6) : xAt p l e { frames := 1, cells := 0, slots := 0, locals := 21 } s m args below meth c g 13 xFT xN 0 0 (MQ below (xQc g xFT xN P) args s 0 0 (xFr g)) (k_X10_leaveBeyond_0 P C6) 0 := by
  unfold k_X10_leaveBeyond_0
  refine r_lload_n (pc := 0) X d_X10_leaveBeyond_0 fn2 ?_
  refine r_lstore (pc := 1) X d_X10_leaveBeyond_1 (by decide +kernel) ?_
  refine r_iconst (pc := 3) X d_X10_leaveBeyond_3 (by decide +kernel) ?_
  refine r_istore (pc := 4) X d_X10_leaveBeyond_4 (by decide +kernel) ?_
  exact h6
def k_X10_leaveBeyond_86 (P : xP) : xK := x_vret P
set_option maxRecDepth 20000 in
theorem t_X10_leaveBeyond_86 {p : Program} {l : Launch} {e : Env} {s : State} {m : MethodId} {args : Array Value} {below : List Frame} {meth : Method} {c : Code} {g : xG} (X : xX p s m args c meth cX10_leaveBeyond RX10 13 g) (hr : meth.sig.returnType = none) {P : xP} : xAt p l e { frames := 1, cells := 0, slots := 0, locals := 21 } s m args below meth c g 13 xFT xN 0 0 (MQ below (xQc g xFT xN P) args s 0 0 (xFr g)) (k_X10_leaveBeyond_86 P) 86 := by
  unfold k_X10_leaveBeyond_86
  exact r_vret (pc := 86) X hr d_X10_leaveBeyond_86
def k_X10_leaveBeyond_6 (P : xP) (C6 : xK) : xK := x_iload 11 (x_push (.int 64) (x_icmp_ge ((k_X10_leaveBeyond_86 P)) (x_lload 9 (x_push (.long 0) (x_lcmp (x_if_eq ((k_X10_leaveBeyond_86 P)) (x_iload 1 (x_push (.int 80) (x_imul (x_iload 4 (x_iadd (x_lload 9 (x_lload 9 (x_lneg (x_land (x_push (.long 1) (x_lsub (x_cs1 (w_J f_J13_bitCount_95d88) (x_iadd (x_istore 12 (x_aload 0 (y_getF 52 55 (x_iload 12 (x_push (.int 2) (x_imul (x_dup2 (y_lald 55 640 (x_lload 5 (x_lor (y_last 55 640 (x_aload 0 (y_getF 52 55 (x_iload 12 (x_push (.int 2) (x_imul (x_push (.int 1) (x_iadd (x_dup2 (y_lald 55 640 (x_lload 7 (x_lor (y_last 55 640 (x_lload 9 (x_lload 9 (x_push (.long 1) (x_lsub (x_land (x_lstore 9 (x_iinc 11 1 (C6))))))))))))))))))))))))))))))))))))))))))))))))))
set_option maxRecDepth 20000 in
theorem t_X10_leaveBeyond_6 {p : Program} {l : Launch} {e : Env} {s : State} {m : MethodId} {args : Array Value} {below : List Frame} {meth : Method} {c : Code} {g : xG} (X : xX p s m args c meth cX10_leaveBeyond RX10 13 g) (hr : meth.sig.returnType = none) {P : xP} {C6 : xK} (h6 : xAt p l e { frames := 1, cells := 0, slots := 0, locals := 21 } s m args below meth c g 13 xFT xN 0 0 (MQ below (xQc g xFT xN P) args s 0 0 (xFr g)) C6 6) : xAt p l e { frames := 1, cells := 0, slots := 0, locals := 21 } s m args below meth c g 13 xFT xN 0 0 (MQ below (xQc g xFT xN P) args s 0 0 (xFr g)) (k_X10_leaveBeyond_6 P C6) 6 := by
  unfold k_X10_leaveBeyond_6
  refine r_iload (pc := 6) X d_X10_leaveBeyond_6 ?_
  refine r_bipush (pc := 8) X d_X10_leaveBeyond_8 (by decide +kernel) ?_
  refine r_icmp_ge (pc := 10) (tgt := 86) X d_X10_leaveBeyond_10 (by decide +kernel) ?_ ?_
  · exact t_X10_leaveBeyond_86 X hr
  · refine r_lload (pc := 13) X d_X10_leaveBeyond_13 ?_
    refine r_lconst (pc := 15) X d_X10_leaveBeyond_15 (by decide +kernel) ?_
    refine r_lcmp (pc := 16) X d_X10_leaveBeyond_16 ?_
    refine r_if_eq (pc := 17) (tgt := 86) X d_X10_leaveBeyond_17 (by decide +kernel) ?_ ?_
    · exact t_X10_leaveBeyond_86 X hr
    · refine r_iload_n (pc := 20) X d_X10_leaveBeyond_20 fn1 ?_
      refine r_bipush (pc := 21) X d_X10_leaveBeyond_21 (by decide +kernel) ?_
      refine r_imul (pc := 23) X d_X10_leaveBeyond_23 ?_
      refine r_iload (pc := 24) X d_X10_leaveBeyond_24 ?_
      refine r_iadd (pc := 26) X d_X10_leaveBeyond_26 ?_
      refine r_lload (pc := 27) X d_X10_leaveBeyond_27 ?_
      refine r_lload (pc := 29) X d_X10_leaveBeyond_29 ?_
      refine r_lneg (pc := 31) X d_X10_leaveBeyond_31 ?_
      refine r_land (pc := 32) X d_X10_leaveBeyond_32 ?_
      refine r_lconst (pc := 33) X d_X10_leaveBeyond_33 (by decide +kernel) ?_
      refine r_lsub (pc := 34) X d_X10_leaveBeyond_34 ?_
      refine r_cs1 (pc := 35) X (con_J13_bitCount_95d88 l) sf_J13_bitCount_95d88 ml_RX10_63 (by decide +kernel) (by decide +kernel) d_X10_leaveBeyond_35 ?_
      refine r_iadd (pc := 38) X d_X10_leaveBeyond_38 ?_
      refine r_istore (pc := 39) X d_X10_leaveBeyond_39 (by decide +kernel) ?_
      refine r_aload_n (pc := 41) X d_X10_leaveBeyond_41 fn0 ?_
      refine s_getF (pc := 42) (ci := 10) (k := 6) X xok10 (by decide +kernel) ob_52 trivial ly_52_6 (by decide +kernel) fl_RX10_18 d_X10_leaveBeyond_42 ?_
      refine r_iload (pc := 45) X d_X10_leaveBeyond_45 ?_
      refine r_iconst (pc := 47) X d_X10_leaveBeyond_47 (by decide +kernel) ?_
      refine r_imul (pc := 48) X d_X10_leaveBeyond_48 ?_
      refine r_dup2 (pc := 49) X d_X10_leaveBeyond_49 ?_
      refine s_lald (pc := 50) X tn_55 ln_55 d_X10_leaveBeyond_50 ?_
      refine r_lload (pc := 51) X d_X10_leaveBeyond_51 ?_
      refine r_lor (pc := 53) X d_X10_leaveBeyond_53 ?_
      refine s_last (pc := 54) X tn_55 ln_55 d_X10_leaveBeyond_54 ?_
      refine r_aload_n (pc := 55) X d_X10_leaveBeyond_55 fn0 ?_
      refine s_getF (pc := 56) (ci := 10) (k := 6) X xok10 (by decide +kernel) ob_52 trivial ly_52_6 (by decide +kernel) fl_RX10_18 d_X10_leaveBeyond_56 ?_
      refine r_iload (pc := 59) X d_X10_leaveBeyond_59 ?_
      refine r_iconst (pc := 61) X d_X10_leaveBeyond_61 (by decide +kernel) ?_
      refine r_imul (pc := 62) X d_X10_leaveBeyond_62 ?_
      refine r_iconst (pc := 63) X d_X10_leaveBeyond_63 (by decide +kernel) ?_
      refine r_iadd (pc := 64) X d_X10_leaveBeyond_64 ?_
      refine r_dup2 (pc := 65) X d_X10_leaveBeyond_65 ?_
      refine s_lald (pc := 66) X tn_55 ln_55 d_X10_leaveBeyond_66 ?_
      refine r_lload (pc := 67) X d_X10_leaveBeyond_67 ?_
      refine r_lor (pc := 69) X d_X10_leaveBeyond_69 ?_
      refine s_last (pc := 70) X tn_55 ln_55 d_X10_leaveBeyond_70 ?_
      refine r_lload (pc := 71) X d_X10_leaveBeyond_71 ?_
      refine r_lload (pc := 73) X d_X10_leaveBeyond_73 ?_
      refine r_lconst (pc := 75) X d_X10_leaveBeyond_75 (by decide +kernel) ?_
      refine r_lsub (pc := 76) X d_X10_leaveBeyond_76 ?_
      refine r_land (pc := 77) X d_X10_leaveBeyond_77 ?_
      refine r_lstore (pc := 78) X d_X10_leaveBeyond_78 (by decide +kernel) ?_
      refine r_iinc (pc := 80) X d_X10_leaveBeyond_80 (by decide +kernel) (by decide +kernel) ?_
      refine r_goto (pc := 83) (tgt := 6) X d_X10_leaveBeyond_83 (by decide +kernel) ?_
      exact h6
set_option maxRecDepth 20000 in
theorem m_X10_leaveBeyond {l : Launch} {f : Nat → Int32 → Int64 → Int32 → Int64 → Int64 → xH → xP → Prop}  {I6 : Nat → Int32 → Int64 → Int32 → Int64 → Int64 → xH → xP → xM → xK}
    (v0 : ∀ (a0 : Nat) (a1 : Int32) (a2 : Int64) (a3 : Int32) (a4 : Int64) (a5 : Int64) (A : xH) (P : xP), f a0 a1 a2 a3 a4 a5 A P → k_X10_leaveBeyond_0 P (xE (I6 a0 a1 a2 a3 a4 a5 A P)) [some (.ref a0), some (.int a1), some (.long a2), none, some (.int a3), some (.long a4), none, some (.long a5), none, none, none, none, none] [] A)
    (v6 : ∀ (a0 : Nat) (a1 : Int32) (a2 : Int64) (a3 : Int32) (a4 : Int64) (a5 : Int64) (A : xH) (P : xP), f a0 a1 a2 a3 a4 a5 A P → ∀ (μ : xM) (L : xL) (st : List Value) (B : xH), I6 a0 a1 a2 a3 a4 a5 A P μ L st B → k_X10_leaveBeyond_6 P (xB (I6 a0 a1 a2 a3 a4 a5 A P) μ) L st B) : xCon l yX10_leaveBeyond cX10_leaveBeyond 13 none 1 21 xN xN 0 xFT xFT (w_RIJIJJ f) := by
  refine xc_RIJIJJ (plainFor_of_name pn_RX10) (by decide +kernel) (fun p e s m args below meth c g a0 a1 a2 a3 a4 a5 A P h X hr _ => ?_)
  have h6 := x_loop1 (p := p) (l := l) (e := e) (R := { frames := 1, cells := 0, slots := 0, locals := 21 }) (s := s) (m := m) (args := args) (below := below) (meth := meth) (c := c) (g := g) (nL := 13) (F := xFT) (n := xN) (cells := 0) (slots := 0) (Q := MQ below (xQc g xFT xN P) args s 0 0 (xFr g)) (I := I6 a0 a1 a2 a3 a4 a5 A P) (pc1 := 6) (fun μ i6 => xAt_mono (t_X10_leaveBeyond_6 (P := P) X hr i6) (v6 a0 a1 a2 a3 a4 a5 A P h μ))
  exact ⟨_, v0 a0 a1 a2 a3 a4 a5 A P h, t_X10_leaveBeyond_0 X hr h6⟩
def hq (lo hi : Int64) (q : Nat) : Bool := if q < 64 then tl lo q else tl hi (q - 64)
def vsT (s h : Nat) (x lo hi : Int64) (m : Nat) : Prop := m / 6400 = s ∧ m / 80 % 80 / 64 = h ∧ tl x (m / 80 % 80 % 64) = true ∧ hq lo hi (m % 80) = true
theorem enV_0 {r m : Nat} {lo : Int64} : enV (r * 2) lo m ↔ m / 80 = r ∧ m % 80 < 64 ∧ tl lo (m % 80) = true := by
  unfold enV
  constructor
  · rintro ⟨a, b, c⟩
    have : m % 80 < 64 := by omega
    rw [Nat.mod_eq_of_lt this] at c
    exact ⟨by omega, this, c⟩
  · rintro ⟨a, b, c⟩
    rw [Nat.mod_eq_of_lt b]
    exact ⟨by omega, by omega, c⟩
theorem enV_1 {r m : Nat} {hi : Int64} : enV (r * 2 + 1) hi m ↔ m / 80 = r ∧ ¬ m % 80 < 64 ∧ tl hi (m % 80 - 64) = true := by
  unfold enV
  constructor
  · rintro ⟨a, b, c⟩
    have h1 : ¬ m % 80 < 64 := by omega
    rw [show m % 80 % 64 = m % 80 - 64 by omega] at c
    exact ⟨by omega, h1, c⟩
  · rintro ⟨a, b, c⟩
    rw [show m % 80 % 64 = m % 80 - 64 by omega]
    exact ⟨by omega, by omega, c⟩
theorem enV_2 {r m : Nat} {lo hi : Int64} : (enV (r * 2) lo m ∨ enV (r * 2 + 1) hi m) ↔ m / 80 = r ∧ hq lo hi (m % 80) = true := by
  rw [enV_0, enV_1]
  unfold hq
  by_cases q : m % 80 < 64
  · rw [if_pos q]
    constructor
    · rintro (⟨a, -, c⟩ | ⟨-, b, -⟩)
      · exact ⟨a, c⟩
      · exact absurd q b
    · rintro ⟨a, c⟩; exact Or.inl ⟨a, q, c⟩
  · rw [if_neg q]
    constructor
    · rintro (⟨-, b, -⟩ | ⟨a, -, c⟩)
      · exact absurd b q
      · exact ⟨a, c⟩
    · rintro ⟨a, c⟩; exact Or.inr ⟨a, q, c⟩
/-- of one first place -/
theorem vsT_1 {s h l m : Nat} {x lo hi rest : Int64} (hl : lowb rest l) (hx : tl x l = true) (h2 : h < 2) (hlt : h * 64 + l < 80) (hm : m < 25600) : (vsT s h x lo hi m ∧ tl (rest &&& (rest - 1)) (m / 80 % 80 % 64) = false) ↔ (vsT s h x lo hi m ∧ tl rest (m / 80 % 80 % 64) = false) ∨ (m / 80 = s * 80 + h * 64 + l ∧ hq lo hi (m % 80) = true) := by
  have m63 : m / 80 % 80 % 64 < 64 := Nat.mod_lt _ (by omega)
  have l1 := hl.1
  rw [tl_rest hl m63]
  unfold vsT
  constructor
  · rintro ⟨⟨a, b, c, d⟩, e⟩
    by_cases q : m / 80 % 80 % 64 = l
    · exact Or.inr ⟨by omega, d⟩
    · rw [decide_eq_true q, Bool.and_true] at e
      exact Or.inl ⟨⟨a, b, c, d⟩, e⟩
  · rintro (⟨⟨a, b, c, d⟩, e⟩ | ⟨a, d⟩)
    · exact ⟨⟨a, b, c, d⟩, by rw [e]; rfl⟩
    · have e0 : m / 6400 = m / 80 / 80 := (Nat.div_div_eq_div_mul m 80 80).symm
      have e1 : m / 80 % 80 = h * 64 + l := by omega
      have e2 : m / 6400 = s := by omega
      have e3 : (h * 64 + l) % 64 = l := by omega
      have e4 : (h * 64 + l) / 64 = h := by omega
      rw [e1, e3, e4]
      exact ⟨⟨e2, rfl, hx, d⟩, by rw [decide_eq_false (fun w => w rfl), Bool.and_false]⟩
def eaP (A : xH) (P : xP) (R : Nat → Prop) (n s h : Nat) (x lo hi : Int64) : Prop := ∀ B n', fr (SEn 53) A B → n ≤ n' → (∀ k, k < n → xi B 56 k = xi A 56 k) → csS 53 (fun m => R m ∨ vsT s h x lo hi m) n' B → P none B
def f_X10_enterAll (q : Nat) (y : Int32) (x : Int64) (z : Int32) (lo hi : Int64) (A : xH) (P : xP) : Prop := q = 52 ∧ ∃ (R : Nat → Prop) (n s h : Nat), y = nI s ∧ s < 4 ∧ z = nI (h * 64) ∧ h < 2 ∧ csS 53 R n A ∧ (∀ j, j < 64 → tl x j = true → h * 64 + j < 80) ∧ (∀ j, j < 64 → tl hi j = true → 64 + j < 80) ∧ eaP A P R n s h x lo hi
def ea6 (A : xH) (P : xP) : xM → xK := fun μ L st B => ∃ (R : Nat → Prop) (n s h : Nat) (x lo hi rest : Int64) (i n' : Nat) (o : Option Value), s < 4 ∧ h < 2 ∧ (∀ j, j < 64 → tl x j = true → h * 64 + j < 80) ∧ (∀ j, j < 64 → tl hi j = true → 64 + j < 80) ∧ eaP A P R n s h x lo hi ∧ fr (SEn 53) A B ∧ n ≤ n' ∧ (∀ k, k < n → xi B 56 k = xi A 56 k) ∧ csS 53 (fun m => R m ∨ (vsT s h x lo hi m ∧ tl rest (m / 80 % 80 % 64) = false)) n' B ∧ (∀ j, j < 64 → tl rest j = true → tl x j = true) ∧ i + pc rest ≤ 64 ∧ st = [] ∧ L = [some (.ref 52), some (.int (nI s)), some (.long x), none, some (.int (nI (h * 64))), some (.long lo), none, some (.long hi), none, some (.long rest), none, some (.int (nI i)), o] ∧ μ = (64 - i, 0, 0)
set_option maxRecDepth 20000 in
theorem con_X10_enterAll (l : Launch) : xCon l yX10_enterAll cX10_enterAll 13 none 2 49 xN xN 0 xFT xFT (w_RIJIJJ f_X10_enterAll) := by
  refine m_X10_enterAll (I6 := fun q y x z lo hi A P => ea6 A P) ?_ ?_
  · rintro q y x z lo hi A P ⟨rfl, R, n, s, h, rfl, hs, rfl, hh, hS, hx, hy, hP⟩
    simp (disch := omega) only [k_X10_enterAll_0, k_X10_enterAll_6, k_X10_enterAll_84, w_J, w_RRIJ, x_aload, x_cs1, x_iadd, x_icmp_ge, x_if_eq, x_iinc, x_iload, x_imul, x_istore, x_land, x_lcmp, x_lload, x_lneg, x_lstore, x_lsub, x_push, x_vret, y_cv3, y_getF, xFT, xbool0, xbool1, Nat.reduceAdd, Nat.zero_add, xgl_0, xgl_s, xgl_n, xst_0, xst_1n, xst_1i, xst_1r, xst_1l, xst_s, set_0, set_s, true_and, and_true, xres, xcat_nil, xcat_i, xcat_r, xcat_l, Nat.add_zero, xble0, xble1, xble2, xble3, xble4, xble5, xble6, xble7, xble8, pk_mul, nI_add, nI_1, nI_leI, nI_ltI, nI_eq, n_in, n_cl, z_eq, z_lt, z_le, z_gt, z_ge, z_qe, o_eq, o_lt, o_le, o_gt, o_ge, vp0, vp1, cl0, cl1, n_sub, n_sub1, n_pm1, n_a0, n_0a, ofn, lN0, Nat.reduceLT, Nat.reduceLeDiff, Nat.reduceMul, Nat.reduceSub, Nat.reduceEqDiff, ne_eq, true_implies, false_implies, not_true_eq_false, not_false_eq_true, and_self, and_true, true_and, and_false, false_and, implies_true, if_true, if_false, i00, i10, i01, i11, ob_0, ob_1, tn_2, ln_2, ob_3, tn_4, ln_4, ob_5, tn_6, ln_6, tn_7, ln_7, ob_8, tn_9, ln_9, tn_10, ln_10, tn_11, ln_11, tn_12, ln_12, tn_13, ln_13, tn_14, ln_14, tn_15, ln_15, tn_16, ln_16, tn_17, ln_17, ob_18, tn_19, ln_19, tn_20, ln_20, tn_21, ln_21, tn_22, ln_22, tn_23, ln_23, tn_24, ln_24, tn_25, ln_25, tn_26, ln_26, tn_27, ln_27, ob_28, tn_29, ln_29, tn_30, ln_30, ob_31, tn_32, ln_32, tn_33, ln_33, ob_34, ob_35, tn_36, ln_36, tn_37, ln_37, tn_38, ln_38, ob_39, tn_40, ln_40, tn_41, ln_41, tn_42, ln_42, tn_43, ln_43, tn_44, ln_44, tn_45, ln_45, tn_46, ln_46, tn_47, ln_47, tn_48, ln_48, tn_49, ln_49, tn_50, ln_50, tn_51, ln_51, ob_52, tn_53, ln_53, tn_54, ln_54, tn_55, ln_55, tn_56, ln_56, ob_57, tn_58, ln_58, tn_59, ln_59, tn_60, ln_60, tn_61, ln_61, tn_62, ln_62, tn_63, ln_63, tn_64, ln_64, tn_65, ln_65, ob_66, tn_67, ln_67, tn_68, ln_68, tn_69, ln_69, tn_70, ln_70, tn_71, ln_71, tn_72, ln_72, tn_73, ln_73, ob_74, tn_75, ln_75, tn_76, ln_76, tn_77, ln_77, tn_78, ln_78, tn_79, ln_79, tn_80, ln_80, tn_81, ln_81, tn_82, ln_82, tn_83, ln_83, ob_84, tn_85, ln_85, tn_86, ln_86, tn_87, ln_87, tn_88, ln_88, tn_89, ln_89, tn_90, ln_90, tn_91, ln_91, tn_92, ln_92, tn_93, ln_93, ob_94, tn_95, ln_95, tn_96, ln_96, tn_97, ln_97, tn_98, ln_98, tn_99, ln_99, tn_100, ln_100, tn_101, ln_101, tn_102, ln_102, tn_103, ln_103, ob_104, tn_105, ln_105, tn_106, ln_106, tn_107, ln_107, tn_108, ln_108, tn_109, ln_109, tn_110, ln_110, tn_111, ln_111, tn_112, ln_112, tn_113, ln_113, ob_114, tn_115, ln_115, tn_116, ln_116, tn_117, ln_117, tn_118, ln_118, tn_119, ln_119, tn_120, ln_120, tn_121, ln_121, tn_122, ln_122, tn_123, ln_123, ob_124, tn_125, ln_125, tn_126, ln_126, tn_127, ln_127, tn_128, ln_128, tn_129, ln_129, tn_130, ln_130, tn_131, ln_131, tn_132, ln_132, tn_133, ln_133, ob_134, tn_135, ln_135, tn_136, ln_136, tn_137, ln_137, tn_138, ln_138, tn_139, ln_139, tn_140, ln_140, tn_141, ln_141, tn_142, ln_142, tn_143, ln_143, ob_144, tn_145, ln_145, tn_146, ln_146, tn_147, ln_147, tn_148, ln_148, tn_149, ln_149, tn_150, ln_150, tn_151, ln_151, tn_152, ln_152, tn_153, ln_153, ob_154, tn_155, ln_155, tn_156, ln_156, tn_157, ln_157, tn_158, ln_158, tn_159, ln_159, tn_160, ln_160, tn_161, ln_161, tn_162, ln_162, tn_163, ln_163, ob_164, tn_165, ln_165, tn_166, ln_166, ob_167, tn_168, ln_168, tn_169, ln_169, tn_170, ln_170, tn_171, ln_171, tn_172, ln_172, tn_173, ln_173, tn_174, ln_174, tn_175, ln_175, tn_176, ln_176, ob_177, tn_178, ln_178, tn_179, ln_179, ob_180, tn_181, ln_181, tn_182, ln_182, tn_183, ln_183, tn_184, ln_184, tn_185, ln_185, tn_186, ln_186, tn_187, ln_187, tn_188, ln_188, tn_189, ln_189, tn_190, ln_190, tn_191, ln_191, tn_192, ln_192, tn_193, ln_193, tn_194, ln_194, tn_195, ln_195, tn_196, ln_196, tn_197, ln_197, tn_198, ln_198, tn_199, ln_199, tn_200, ln_200, tn_201, ln_201, tn_202, ln_202, tn_203, ln_203, tn_204, ln_204, tn_205, ln_205, tn_206, ln_206, tn_207, ln_207, tn_208, ln_208, tn_209, ln_209, tn_210, ln_210, tn_211, ln_211, tn_212, ln_212, tn_213, ln_213, tn_214, ln_214, tn_215, ln_215, tn_216, ln_216, tn_217, ln_217, tn_218, ln_218, tn_219, ln_219, tn_220, ln_220, tn_221, ln_221, tn_222, ln_222, tn_223, ln_223, tn_224, ln_224, tn_225, ln_225, tn_226, ln_226, tn_227, ln_227, tn_228, ln_228, tn_229, ln_229, tn_230, ln_230, lx2, lx3, lx4, lx5, lx6, lx7, lx8, lx9, lx10, lx14, lx15, lx16, lx18, lx20, lx24, lx25, lx27, lx32, lx36, lx40, lx41, lx42, lx43, lx45, lx48, lx52, lx54, lx56, lx57, lx58, lx60, lx61, lx62, lx63, lx64, lx66, lx69, lx73, lx80, lx81, lx84, lx85, lx87, lx94, lx96, lx97, lx120, lx128, lx135, lx160, lx162, lx163, lx165, lx200, lx232, lx242, lx243, lx255, lx256, lx320, lx325, lx400, lx405, lx464, lx512, lx600, lx640, lx752, lx900, lx940, lx1000, lx1024, lx1764, lx3360, lx3840, lx5000, lx6400, lx9050, lx9998, lx9999, lx10000, lx25600, lx76800, lx99999, si_ne, si_eq, sl_ne, sl_eq, xl_si, xi_sl, sA_ne, sA_eq, xl_sA]
    refine xE0 (64 - 0, 0, 0) ⟨R, n, s, h, x, lo, hi, x, 0, n, none, hs, hh, hx, hy, hP, fr_rf, Nat.le_refl _, fun _ _ => rfl, csS_congr hS fun m hm => ?_, fun j _ w => w, by have := pc_le x; omega, rfl, rfl, rfl⟩
    constructor
    · exact Or.inl
    · rintro (w | ⟨⟨-, -, w, -⟩, w2⟩)
      · exact w
      · rw [w] at w2; cases w2
  · rintro q y x z lo hi A P - μ L st B ⟨R, n, s, h, x, lo, hi, rest, i, n', o, hs, hh, hx, hy, hP, hF, hn, hpre, hS, hr, hI, rfl, rfl, rfl⟩
    simp (disch := omega) only [k_X10_enterAll_0, k_X10_enterAll_6, k_X10_enterAll_84, w_J, w_RRIJ, x_aload, x_cs1, x_iadd, x_icmp_ge, x_if_eq, x_iinc, x_iload, x_imul, x_istore, x_land, x_lcmp, x_lload, x_lneg, x_lstore, x_lsub, x_push, x_vret, y_cv3, y_getF, xFT, xbool0, xbool1, Nat.reduceAdd, Nat.zero_add, xgl_0, xgl_s, xgl_n, xst_0, xst_1n, xst_1i, xst_1r, xst_1l, xst_s, set_0, set_s, true_and, and_true, xres, xcat_nil, xcat_i, xcat_r, xcat_l, Nat.add_zero, xble0, xble1, xble2, xble3, xble4, xble5, xble6, xble7, xble8, pk_mul, nI_add, nI_1, nI_leI, nI_ltI, nI_eq, n_in, n_cl, z_eq, z_lt, z_le, z_gt, z_ge, z_qe, o_eq, o_lt, o_le, o_gt, o_ge, vp0, vp1, cl0, cl1, n_sub, n_sub1, n_pm1, n_a0, n_0a, ofn, lN0, Nat.reduceLT, Nat.reduceLeDiff, Nat.reduceMul, Nat.reduceSub, Nat.reduceEqDiff, ne_eq, true_implies, false_implies, not_true_eq_false, not_false_eq_true, and_self, and_true, true_and, and_false, false_and, implies_true, if_true, if_false, i00, i10, i01, i11, ob_0, ob_1, tn_2, ln_2, ob_3, tn_4, ln_4, ob_5, tn_6, ln_6, tn_7, ln_7, ob_8, tn_9, ln_9, tn_10, ln_10, tn_11, ln_11, tn_12, ln_12, tn_13, ln_13, tn_14, ln_14, tn_15, ln_15, tn_16, ln_16, tn_17, ln_17, ob_18, tn_19, ln_19, tn_20, ln_20, tn_21, ln_21, tn_22, ln_22, tn_23, ln_23, tn_24, ln_24, tn_25, ln_25, tn_26, ln_26, tn_27, ln_27, ob_28, tn_29, ln_29, tn_30, ln_30, ob_31, tn_32, ln_32, tn_33, ln_33, ob_34, ob_35, tn_36, ln_36, tn_37, ln_37, tn_38, ln_38, ob_39, tn_40, ln_40, tn_41, ln_41, tn_42, ln_42, tn_43, ln_43, tn_44, ln_44, tn_45, ln_45, tn_46, ln_46, tn_47, ln_47, tn_48, ln_48, tn_49, ln_49, tn_50, ln_50, tn_51, ln_51, ob_52, tn_53, ln_53, tn_54, ln_54, tn_55, ln_55, tn_56, ln_56, ob_57, tn_58, ln_58, tn_59, ln_59, tn_60, ln_60, tn_61, ln_61, tn_62, ln_62, tn_63, ln_63, tn_64, ln_64, tn_65, ln_65, ob_66, tn_67, ln_67, tn_68, ln_68, tn_69, ln_69, tn_70, ln_70, tn_71, ln_71, tn_72, ln_72, tn_73, ln_73, ob_74, tn_75, ln_75, tn_76, ln_76, tn_77, ln_77, tn_78, ln_78, tn_79, ln_79, tn_80, ln_80, tn_81, ln_81, tn_82, ln_82, tn_83, ln_83, ob_84, tn_85, ln_85, tn_86, ln_86, tn_87, ln_87, tn_88, ln_88, tn_89, ln_89, tn_90, ln_90, tn_91, ln_91, tn_92, ln_92, tn_93, ln_93, ob_94, tn_95, ln_95, tn_96, ln_96, tn_97, ln_97, tn_98, ln_98, tn_99, ln_99, tn_100, ln_100, tn_101, ln_101, tn_102, ln_102, tn_103, ln_103, ob_104, tn_105, ln_105, tn_106, ln_106, tn_107, ln_107, tn_108, ln_108, tn_109, ln_109, tn_110, ln_110, tn_111, ln_111, tn_112, ln_112, tn_113, ln_113, ob_114, tn_115, ln_115, tn_116, ln_116, tn_117, ln_117, tn_118, ln_118, tn_119, ln_119, tn_120, ln_120, tn_121, ln_121, tn_122, ln_122, tn_123, ln_123, ob_124, tn_125, ln_125, tn_126, ln_126, tn_127, ln_127, tn_128, ln_128, tn_129, ln_129, tn_130, ln_130, tn_131, ln_131, tn_132, ln_132, tn_133, ln_133, ob_134, tn_135, ln_135, tn_136, ln_136, tn_137, ln_137, tn_138, ln_138, tn_139, ln_139, tn_140, ln_140, tn_141, ln_141, tn_142, ln_142, tn_143, ln_143, ob_144, tn_145, ln_145, tn_146, ln_146, tn_147, ln_147, tn_148, ln_148, tn_149, ln_149, tn_150, ln_150, tn_151, ln_151, tn_152, ln_152, tn_153, ln_153, ob_154, tn_155, ln_155, tn_156, ln_156, tn_157, ln_157, tn_158, ln_158, tn_159, ln_159, tn_160, ln_160, tn_161, ln_161, tn_162, ln_162, tn_163, ln_163, ob_164, tn_165, ln_165, tn_166, ln_166, ob_167, tn_168, ln_168, tn_169, ln_169, tn_170, ln_170, tn_171, ln_171, tn_172, ln_172, tn_173, ln_173, tn_174, ln_174, tn_175, ln_175, tn_176, ln_176, ob_177, tn_178, ln_178, tn_179, ln_179, ob_180, tn_181, ln_181, tn_182, ln_182, tn_183, ln_183, tn_184, ln_184, tn_185, ln_185, tn_186, ln_186, tn_187, ln_187, tn_188, ln_188, tn_189, ln_189, tn_190, ln_190, tn_191, ln_191, tn_192, ln_192, tn_193, ln_193, tn_194, ln_194, tn_195, ln_195, tn_196, ln_196, tn_197, ln_197, tn_198, ln_198, tn_199, ln_199, tn_200, ln_200, tn_201, ln_201, tn_202, ln_202, tn_203, ln_203, tn_204, ln_204, tn_205, ln_205, tn_206, ln_206, tn_207, ln_207, tn_208, ln_208, tn_209, ln_209, tn_210, ln_210, tn_211, ln_211, tn_212, ln_212, tn_213, ln_213, tn_214, ln_214, tn_215, ln_215, tn_216, ln_216, tn_217, ln_217, tn_218, ln_218, tn_219, ln_219, tn_220, ln_220, tn_221, ln_221, tn_222, ln_222, tn_223, ln_223, tn_224, ln_224, tn_225, ln_225, tn_226, ln_226, tn_227, ln_227, tn_228, ln_228, tn_229, ln_229, tn_230, ln_230, lx2, lx3, lx4, lx5, lx6, lx7, lx8, lx9, lx10, lx14, lx15, lx16, lx18, lx20, lx24, lx25, lx27, lx32, lx36, lx40, lx41, lx42, lx43, lx45, lx48, lx52, lx54, lx56, lx57, lx58, lx60, lx61, lx62, lx63, lx64, lx66, lx69, lx73, lx80, lx81, lx84, lx85, lx87, lx94, lx96, lx97, lx120, lx128, lx135, lx160, lx162, lx163, lx165, lx200, lx232, lx242, lx243, lx255, lx256, lx320, lx325, lx400, lx405, lx464, lx512, lx600, lx640, lx752, lx900, lx940, lx1000, lx1024, lx1764, lx3360, lx3840, lx5000, lx6400, lx9050, lx9998, lx9999, lx10000, lx25600, lx76800, lx99999, si_ne, si_eq, sl_ne, sl_eq, xl_si, xi_sl, sA_ne, sA_eq, xl_sA, lcmp0]
    have out : rest = 0 → P none B := fun z => by
      refine hP B n' hF hn hpre (csS_congr hS fun m hm => ?_)
      rw [z, tl_0]
      constructor
      · rintro (w | w)
        · exact Or.inl w
        · exact Or.inr w.1
      · rintro (w | w)
        · exact Or.inl w
        · exact Or.inr ⟨w, rfl⟩
    refine ⟨fun z => out (pc_z (by omega)), fun z => ⟨fun z2 => out z2, fun z2 => ?_⟩⟩
    obtain ⟨l, hl⟩ := lowb_of (x := rest) z2
    have hxl := hr l hl.1 hl.2.1
    have hlt := hx l hl.1 hxl
    have hp := pc_rest hl
    refine bitCount_A' (pc_below hl) ?_
    simp (disch := omega) only [k_X10_enterAll_0, k_X10_enterAll_6, k_X10_enterAll_84, w_J, w_RRIJ, x_aload, x_cs1, x_iadd, x_icmp_ge, x_if_eq, x_iinc, x_iload, x_imul, x_istore, x_land, x_lcmp, x_lload, x_lneg, x_lstore, x_lsub, x_push, x_vret, y_cv3, y_getF, xFT, xbool0, xbool1, Nat.reduceAdd, Nat.zero_add, xgl_0, xgl_s, xgl_n, xst_0, xst_1n, xst_1i, xst_1r, xst_1l, xst_s, set_0, set_s, true_and, and_true, xres, xcat_nil, xcat_i, xcat_r, xcat_l, Nat.add_zero, xble0, xble1, xble2, xble3, xble4, xble5, xble6, xble7, xble8, pk_mul, nI_add, nI_1, nI_leI, nI_ltI, nI_eq, n_in, n_cl, z_eq, z_lt, z_le, z_gt, z_ge, z_qe, o_eq, o_lt, o_le, o_gt, o_ge, vp0, vp1, cl0, cl1, n_sub, n_sub1, n_pm1, n_a0, n_0a, ofn, lN0, Nat.reduceLT, Nat.reduceLeDiff, Nat.reduceMul, Nat.reduceSub, Nat.reduceEqDiff, ne_eq, true_implies, false_implies, not_true_eq_false, not_false_eq_true, and_self, and_true, true_and, and_false, false_and, implies_true, if_true, if_false, i00, i10, i01, i11, ob_0, ob_1, tn_2, ln_2, ob_3, tn_4, ln_4, ob_5, tn_6, ln_6, tn_7, ln_7, ob_8, tn_9, ln_9, tn_10, ln_10, tn_11, ln_11, tn_12, ln_12, tn_13, ln_13, tn_14, ln_14, tn_15, ln_15, tn_16, ln_16, tn_17, ln_17, ob_18, tn_19, ln_19, tn_20, ln_20, tn_21, ln_21, tn_22, ln_22, tn_23, ln_23, tn_24, ln_24, tn_25, ln_25, tn_26, ln_26, tn_27, ln_27, ob_28, tn_29, ln_29, tn_30, ln_30, ob_31, tn_32, ln_32, tn_33, ln_33, ob_34, ob_35, tn_36, ln_36, tn_37, ln_37, tn_38, ln_38, ob_39, tn_40, ln_40, tn_41, ln_41, tn_42, ln_42, tn_43, ln_43, tn_44, ln_44, tn_45, ln_45, tn_46, ln_46, tn_47, ln_47, tn_48, ln_48, tn_49, ln_49, tn_50, ln_50, tn_51, ln_51, ob_52, tn_53, ln_53, tn_54, ln_54, tn_55, ln_55, tn_56, ln_56, ob_57, tn_58, ln_58, tn_59, ln_59, tn_60, ln_60, tn_61, ln_61, tn_62, ln_62, tn_63, ln_63, tn_64, ln_64, tn_65, ln_65, ob_66, tn_67, ln_67, tn_68, ln_68, tn_69, ln_69, tn_70, ln_70, tn_71, ln_71, tn_72, ln_72, tn_73, ln_73, ob_74, tn_75, ln_75, tn_76, ln_76, tn_77, ln_77, tn_78, ln_78, tn_79, ln_79, tn_80, ln_80, tn_81, ln_81, tn_82, ln_82, tn_83, ln_83, ob_84, tn_85, ln_85, tn_86, ln_86, tn_87, ln_87, tn_88, ln_88, tn_89, ln_89, tn_90, ln_90, tn_91, ln_91, tn_92, ln_92, tn_93, ln_93, ob_94, tn_95, ln_95, tn_96, ln_96, tn_97, ln_97, tn_98, ln_98, tn_99, ln_99, tn_100, ln_100, tn_101, ln_101, tn_102, ln_102, tn_103, ln_103, ob_104, tn_105, ln_105, tn_106, ln_106, tn_107, ln_107, tn_108, ln_108, tn_109, ln_109, tn_110, ln_110, tn_111, ln_111, tn_112, ln_112, tn_113, ln_113, ob_114, tn_115, ln_115, tn_116, ln_116, tn_117, ln_117, tn_118, ln_118, tn_119, ln_119, tn_120, ln_120, tn_121, ln_121, tn_122, ln_122, tn_123, ln_123, ob_124, tn_125, ln_125, tn_126, ln_126, tn_127, ln_127, tn_128, ln_128, tn_129, ln_129, tn_130, ln_130, tn_131, ln_131, tn_132, ln_132, tn_133, ln_133, ob_134, tn_135, ln_135, tn_136, ln_136, tn_137, ln_137, tn_138, ln_138, tn_139, ln_139, tn_140, ln_140, tn_141, ln_141, tn_142, ln_142, tn_143, ln_143, ob_144, tn_145, ln_145, tn_146, ln_146, tn_147, ln_147, tn_148, ln_148, tn_149, ln_149, tn_150, ln_150, tn_151, ln_151, tn_152, ln_152, tn_153, ln_153, ob_154, tn_155, ln_155, tn_156, ln_156, tn_157, ln_157, tn_158, ln_158, tn_159, ln_159, tn_160, ln_160, tn_161, ln_161, tn_162, ln_162, tn_163, ln_163, ob_164, tn_165, ln_165, tn_166, ln_166, ob_167, tn_168, ln_168, tn_169, ln_169, tn_170, ln_170, tn_171, ln_171, tn_172, ln_172, tn_173, ln_173, tn_174, ln_174, tn_175, ln_175, tn_176, ln_176, ob_177, tn_178, ln_178, tn_179, ln_179, ob_180, tn_181, ln_181, tn_182, ln_182, tn_183, ln_183, tn_184, ln_184, tn_185, ln_185, tn_186, ln_186, tn_187, ln_187, tn_188, ln_188, tn_189, ln_189, tn_190, ln_190, tn_191, ln_191, tn_192, ln_192, tn_193, ln_193, tn_194, ln_194, tn_195, ln_195, tn_196, ln_196, tn_197, ln_197, tn_198, ln_198, tn_199, ln_199, tn_200, ln_200, tn_201, ln_201, tn_202, ln_202, tn_203, ln_203, tn_204, ln_204, tn_205, ln_205, tn_206, ln_206, tn_207, ln_207, tn_208, ln_208, tn_209, ln_209, tn_210, ln_210, tn_211, ln_211, tn_212, ln_212, tn_213, ln_213, tn_214, ln_214, tn_215, ln_215, tn_216, ln_216, tn_217, ln_217, tn_218, ln_218, tn_219, ln_219, tn_220, ln_220, tn_221, ln_221, tn_222, ln_222, tn_223, ln_223, tn_224, ln_224, tn_225, ln_225, tn_226, ln_226, tn_227, ln_227, tn_228, ln_228, tn_229, ln_229, tn_230, ln_230, lx2, lx3, lx4, lx5, lx6, lx7, lx8, lx9, lx10, lx14, lx15, lx16, lx18, lx20, lx24, lx25, lx27, lx32, lx36, lx40, lx41, lx42, lx43, lx45, lx48, lx52, lx54, lx56, lx57, lx58, lx60, lx61, lx62, lx63, lx64, lx66, lx69, lx73, lx80, lx81, lx84, lx85, lx87, lx94, lx96, lx97, lx120, lx128, lx135, lx160, lx162, lx163, lx165, lx200, lx232, lx242, lx243, lx255, lx256, lx320, lx325, lx400, lx405, lx464, lx512, lx600, lx640, lx752, lx900, lx940, lx1000, lx1024, lx1764, lx3360, lx3840, lx5000, lx6400, lx9050, lx9998, lx9999, lx10000, lx25600, lx76800, lx99999, si_ne, si_eq, sl_ne, sl_eq, xl_si, xi_sl, sA_ne, sA_eq, xl_sA]
    refine ⟨rfl, Or.inl rfl, _, n', (s * 80 + h * 64 + l) * 2, rfl, by omega, hS, fun j hj _ => by omega, fun C n1 hC h1 hp1 hS1 => ?_⟩
    simp (disch := omega) only [k_X10_enterAll_0, k_X10_enterAll_6, k_X10_enterAll_84, w_J, w_RRIJ, x_aload, x_cs1, x_iadd, x_icmp_ge, x_if_eq, x_iinc, x_iload, x_imul, x_istore, x_land, x_lcmp, x_lload, x_lneg, x_lstore, x_lsub, x_push, x_vret, y_cv3, y_getF, xFT, xbool0, xbool1, Nat.reduceAdd, Nat.zero_add, xgl_0, xgl_s, xgl_n, xst_0, xst_1n, xst_1i, xst_1r, xst_1l, xst_s, set_0, set_s, true_and, and_true, xres, xcat_nil, xcat_i, xcat_r, xcat_l, Nat.add_zero, xble0, xble1, xble2, xble3, xble4, xble5, xble6, xble7, xble8, pk_mul, nI_add, nI_1, nI_leI, nI_ltI, nI_eq, n_in, n_cl, z_eq, z_lt, z_le, z_gt, z_ge, z_qe, o_eq, o_lt, o_le, o_gt, o_ge, vp0, vp1, cl0, cl1, n_sub, n_sub1, n_pm1, n_a0, n_0a, ofn, lN0, Nat.reduceLT, Nat.reduceLeDiff, Nat.reduceMul, Nat.reduceSub, Nat.reduceEqDiff, ne_eq, true_implies, false_implies, not_true_eq_false, not_false_eq_true, and_self, and_true, true_and, and_false, false_and, implies_true, if_true, if_false, i00, i10, i01, i11, ob_0, ob_1, tn_2, ln_2, ob_3, tn_4, ln_4, ob_5, tn_6, ln_6, tn_7, ln_7, ob_8, tn_9, ln_9, tn_10, ln_10, tn_11, ln_11, tn_12, ln_12, tn_13, ln_13, tn_14, ln_14, tn_15, ln_15, tn_16, ln_16, tn_17, ln_17, ob_18, tn_19, ln_19, tn_20, ln_20, tn_21, ln_21, tn_22, ln_22, tn_23, ln_23, tn_24, ln_24, tn_25, ln_25, tn_26, ln_26, tn_27, ln_27, ob_28, tn_29, ln_29, tn_30, ln_30, ob_31, tn_32, ln_32, tn_33, ln_33, ob_34, ob_35, tn_36, ln_36, tn_37, ln_37, tn_38, ln_38, ob_39, tn_40, ln_40, tn_41, ln_41, tn_42, ln_42, tn_43, ln_43, tn_44, ln_44, tn_45, ln_45, tn_46, ln_46, tn_47, ln_47, tn_48, ln_48, tn_49, ln_49, tn_50, ln_50, tn_51, ln_51, ob_52, tn_53, ln_53, tn_54, ln_54, tn_55, ln_55, tn_56, ln_56, ob_57, tn_58, ln_58, tn_59, ln_59, tn_60, ln_60, tn_61, ln_61, tn_62, ln_62, tn_63, ln_63, tn_64, ln_64, tn_65, ln_65, ob_66, tn_67, ln_67, tn_68, ln_68, tn_69, ln_69, tn_70, ln_70, tn_71, ln_71, tn_72, ln_72, tn_73, ln_73, ob_74, tn_75, ln_75, tn_76, ln_76, tn_77, ln_77, tn_78, ln_78, tn_79, ln_79, tn_80, ln_80, tn_81, ln_81, tn_82, ln_82, tn_83, ln_83, ob_84, tn_85, ln_85, tn_86, ln_86, tn_87, ln_87, tn_88, ln_88, tn_89, ln_89, tn_90, ln_90, tn_91, ln_91, tn_92, ln_92, tn_93, ln_93, ob_94, tn_95, ln_95, tn_96, ln_96, tn_97, ln_97, tn_98, ln_98, tn_99, ln_99, tn_100, ln_100, tn_101, ln_101, tn_102, ln_102, tn_103, ln_103, ob_104, tn_105, ln_105, tn_106, ln_106, tn_107, ln_107, tn_108, ln_108, tn_109, ln_109, tn_110, ln_110, tn_111, ln_111, tn_112, ln_112, tn_113, ln_113, ob_114, tn_115, ln_115, tn_116, ln_116, tn_117, ln_117, tn_118, ln_118, tn_119, ln_119, tn_120, ln_120, tn_121, ln_121, tn_122, ln_122, tn_123, ln_123, ob_124, tn_125, ln_125, tn_126, ln_126, tn_127, ln_127, tn_128, ln_128, tn_129, ln_129, tn_130, ln_130, tn_131, ln_131, tn_132, ln_132, tn_133, ln_133, ob_134, tn_135, ln_135, tn_136, ln_136, tn_137, ln_137, tn_138, ln_138, tn_139, ln_139, tn_140, ln_140, tn_141, ln_141, tn_142, ln_142, tn_143, ln_143, ob_144, tn_145, ln_145, tn_146, ln_146, tn_147, ln_147, tn_148, ln_148, tn_149, ln_149, tn_150, ln_150, tn_151, ln_151, tn_152, ln_152, tn_153, ln_153, ob_154, tn_155, ln_155, tn_156, ln_156, tn_157, ln_157, tn_158, ln_158, tn_159, ln_159, tn_160, ln_160, tn_161, ln_161, tn_162, ln_162, tn_163, ln_163, ob_164, tn_165, ln_165, tn_166, ln_166, ob_167, tn_168, ln_168, tn_169, ln_169, tn_170, ln_170, tn_171, ln_171, tn_172, ln_172, tn_173, ln_173, tn_174, ln_174, tn_175, ln_175, tn_176, ln_176, ob_177, tn_178, ln_178, tn_179, ln_179, ob_180, tn_181, ln_181, tn_182, ln_182, tn_183, ln_183, tn_184, ln_184, tn_185, ln_185, tn_186, ln_186, tn_187, ln_187, tn_188, ln_188, tn_189, ln_189, tn_190, ln_190, tn_191, ln_191, tn_192, ln_192, tn_193, ln_193, tn_194, ln_194, tn_195, ln_195, tn_196, ln_196, tn_197, ln_197, tn_198, ln_198, tn_199, ln_199, tn_200, ln_200, tn_201, ln_201, tn_202, ln_202, tn_203, ln_203, tn_204, ln_204, tn_205, ln_205, tn_206, ln_206, tn_207, ln_207, tn_208, ln_208, tn_209, ln_209, tn_210, ln_210, tn_211, ln_211, tn_212, ln_212, tn_213, ln_213, tn_214, ln_214, tn_215, ln_215, tn_216, ln_216, tn_217, ln_217, tn_218, ln_218, tn_219, ln_219, tn_220, ln_220, tn_221, ln_221, tn_222, ln_222, tn_223, ln_223, tn_224, ln_224, tn_225, ln_225, tn_226, ln_226, tn_227, ln_227, tn_228, ln_228, tn_229, ln_229, tn_230, ln_230, lx2, lx3, lx4, lx5, lx6, lx7, lx8, lx9, lx10, lx14, lx15, lx16, lx18, lx20, lx24, lx25, lx27, lx32, lx36, lx40, lx41, lx42, lx43, lx45, lx48, lx52, lx54, lx56, lx57, lx58, lx60, lx61, lx62, lx63, lx64, lx66, lx69, lx73, lx80, lx81, lx84, lx85, lx87, lx94, lx96, lx97, lx120, lx128, lx135, lx160, lx162, lx163, lx165, lx200, lx232, lx242, lx243, lx255, lx256, lx320, lx325, lx400, lx405, lx464, lx512, lx600, lx640, lx752, lx900, lx940, lx1000, lx1024, lx1764, lx3360, lx3840, lx5000, lx6400, lx9050, lx9998, lx9999, lx10000, lx25600, lx76800, lx99999, si_ne, si_eq, sl_ne, sl_eq, xl_si, xi_sl, sA_ne, sA_eq, xl_sA]
    refine ⟨rfl, Or.inl rfl, _, n1, (s * 80 + h * 64 + l) * 2 + 1, rfl, by omega, hS1, fun j hj w => by have := hy j hj w; omega, fun D n2 hD h2 hp2 hS2 => ?_⟩
    simp (disch := omega) only [k_X10_enterAll_0, k_X10_enterAll_6, k_X10_enterAll_84, w_J, w_RRIJ, x_aload, x_cs1, x_iadd, x_icmp_ge, x_if_eq, x_iinc, x_iload, x_imul, x_istore, x_land, x_lcmp, x_lload, x_lneg, x_lstore, x_lsub, x_push, x_vret, y_cv3, y_getF, xFT, xbool0, xbool1, Nat.reduceAdd, Nat.zero_add, xgl_0, xgl_s, xgl_n, xst_0, xst_1n, xst_1i, xst_1r, xst_1l, xst_s, set_0, set_s, true_and, and_true, xres, xcat_nil, xcat_i, xcat_r, xcat_l, Nat.add_zero, xble0, xble1, xble2, xble3, xble4, xble5, xble6, xble7, xble8, pk_mul, nI_add, nI_1, nI_leI, nI_ltI, nI_eq, n_in, n_cl, z_eq, z_lt, z_le, z_gt, z_ge, z_qe, o_eq, o_lt, o_le, o_gt, o_ge, vp0, vp1, cl0, cl1, n_sub, n_sub1, n_pm1, n_a0, n_0a, ofn, lN0, Nat.reduceLT, Nat.reduceLeDiff, Nat.reduceMul, Nat.reduceSub, Nat.reduceEqDiff, ne_eq, true_implies, false_implies, not_true_eq_false, not_false_eq_true, and_self, and_true, true_and, and_false, false_and, implies_true, if_true, if_false, i00, i10, i01, i11, ob_0, ob_1, tn_2, ln_2, ob_3, tn_4, ln_4, ob_5, tn_6, ln_6, tn_7, ln_7, ob_8, tn_9, ln_9, tn_10, ln_10, tn_11, ln_11, tn_12, ln_12, tn_13, ln_13, tn_14, ln_14, tn_15, ln_15, tn_16, ln_16, tn_17, ln_17, ob_18, tn_19, ln_19, tn_20, ln_20, tn_21, ln_21, tn_22, ln_22, tn_23, ln_23, tn_24, ln_24, tn_25, ln_25, tn_26, ln_26, tn_27, ln_27, ob_28, tn_29, ln_29, tn_30, ln_30, ob_31, tn_32, ln_32, tn_33, ln_33, ob_34, ob_35, tn_36, ln_36, tn_37, ln_37, tn_38, ln_38, ob_39, tn_40, ln_40, tn_41, ln_41, tn_42, ln_42, tn_43, ln_43, tn_44, ln_44, tn_45, ln_45, tn_46, ln_46, tn_47, ln_47, tn_48, ln_48, tn_49, ln_49, tn_50, ln_50, tn_51, ln_51, ob_52, tn_53, ln_53, tn_54, ln_54, tn_55, ln_55, tn_56, ln_56, ob_57, tn_58, ln_58, tn_59, ln_59, tn_60, ln_60, tn_61, ln_61, tn_62, ln_62, tn_63, ln_63, tn_64, ln_64, tn_65, ln_65, ob_66, tn_67, ln_67, tn_68, ln_68, tn_69, ln_69, tn_70, ln_70, tn_71, ln_71, tn_72, ln_72, tn_73, ln_73, ob_74, tn_75, ln_75, tn_76, ln_76, tn_77, ln_77, tn_78, ln_78, tn_79, ln_79, tn_80, ln_80, tn_81, ln_81, tn_82, ln_82, tn_83, ln_83, ob_84, tn_85, ln_85, tn_86, ln_86, tn_87, ln_87, tn_88, ln_88, tn_89, ln_89, tn_90, ln_90, tn_91, ln_91, tn_92, ln_92, tn_93, ln_93, ob_94, tn_95, ln_95, tn_96, ln_96, tn_97, ln_97, tn_98, ln_98, tn_99, ln_99, tn_100, ln_100, tn_101, ln_101, tn_102, ln_102, tn_103, ln_103, ob_104, tn_105, ln_105, tn_106, ln_106, tn_107, ln_107, tn_108, ln_108, tn_109, ln_109, tn_110, ln_110, tn_111, ln_111, tn_112, ln_112, tn_113, ln_113, ob_114, tn_115, ln_115, tn_116, ln_116, tn_117, ln_117, tn_118, ln_118, tn_119, ln_119, tn_120, ln_120, tn_121, ln_121, tn_122, ln_122, tn_123, ln_123, ob_124, tn_125, ln_125, tn_126, ln_126, tn_127, ln_127, tn_128, ln_128, tn_129, ln_129, tn_130, ln_130, tn_131, ln_131, tn_132, ln_132, tn_133, ln_133, ob_134, tn_135, ln_135, tn_136, ln_136, tn_137, ln_137, tn_138, ln_138, tn_139, ln_139, tn_140, ln_140, tn_141, ln_141, tn_142, ln_142, tn_143, ln_143, ob_144, tn_145, ln_145, tn_146, ln_146, tn_147, ln_147, tn_148, ln_148, tn_149, ln_149, tn_150, ln_150, tn_151, ln_151, tn_152, ln_152, tn_153, ln_153, ob_154, tn_155, ln_155, tn_156, ln_156, tn_157, ln_157, tn_158, ln_158, tn_159, ln_159, tn_160, ln_160, tn_161, ln_161, tn_162, ln_162, tn_163, ln_163, ob_164, tn_165, ln_165, tn_166, ln_166, ob_167, tn_168, ln_168, tn_169, ln_169, tn_170, ln_170, tn_171, ln_171, tn_172, ln_172, tn_173, ln_173, tn_174, ln_174, tn_175, ln_175, tn_176, ln_176, ob_177, tn_178, ln_178, tn_179, ln_179, ob_180, tn_181, ln_181, tn_182, ln_182, tn_183, ln_183, tn_184, ln_184, tn_185, ln_185, tn_186, ln_186, tn_187, ln_187, tn_188, ln_188, tn_189, ln_189, tn_190, ln_190, tn_191, ln_191, tn_192, ln_192, tn_193, ln_193, tn_194, ln_194, tn_195, ln_195, tn_196, ln_196, tn_197, ln_197, tn_198, ln_198, tn_199, ln_199, tn_200, ln_200, tn_201, ln_201, tn_202, ln_202, tn_203, ln_203, tn_204, ln_204, tn_205, ln_205, tn_206, ln_206, tn_207, ln_207, tn_208, ln_208, tn_209, ln_209, tn_210, ln_210, tn_211, ln_211, tn_212, ln_212, tn_213, ln_213, tn_214, ln_214, tn_215, ln_215, tn_216, ln_216, tn_217, ln_217, tn_218, ln_218, tn_219, ln_219, tn_220, ln_220, tn_221, ln_221, tn_222, ln_222, tn_223, ln_223, tn_224, ln_224, tn_225, ln_225, tn_226, ln_226, tn_227, ln_227, tn_228, ln_228, tn_229, ln_229, tn_230, ln_230, lx2, lx3, lx4, lx5, lx6, lx7, lx8, lx9, lx10, lx14, lx15, lx16, lx18, lx20, lx24, lx25, lx27, lx32, lx36, lx40, lx41, lx42, lx43, lx45, lx48, lx52, lx54, lx56, lx57, lx58, lx60, lx61, lx62, lx63, lx64, lx66, lx69, lx73, lx80, lx81, lx84, lx85, lx87, lx94, lx96, lx97, lx120, lx128, lx135, lx160, lx162, lx163, lx165, lx200, lx232, lx242, lx243, lx255, lx256, lx320, lx325, lx400, lx405, lx464, lx512, lx600, lx640, lx752, lx900, lx940, lx1000, lx1024, lx1764, lx3360, lx3840, lx5000, lx6400, lx9050, lx9998, lx9999, lx10000, lx25600, lx76800, lx99999, si_ne, si_eq, sl_ne, sl_eq, xl_si, xi_sl, sA_ne, sA_eq, xl_sA]
    refine xB1 (b := 64 - (i + 1)) (by omega) ⟨R, n, s, h, x, lo, hi, rest &&& (rest - 1), i + 1, n2, _, hs, hh, hx, hy, hP, fr_tr hF (fr_tr hC hD), by omega, fun k hk => (hp2 k (by omega)).trans ((hp1 k (by omega)).trans (hpre k hk)), csS_congr hS2 fun m hm => ?_, fun j hj w => ?_, by omega, rfl, rfl, rfl⟩
    · rw [vsT_1 hl hxl hh hlt hm, or_assoc, enV_2, or_assoc]
    · rw [tl_rest hl hj, Bool.and_eq_true] at w
      exact hr j hj w.1
/-- those beyond, as bits -/
def byS (R : Nat → Prop) (A : xH) : Prop := ∀ t j, t < 640 → j < 64 → (tl (xl A 55 t) j = true ↔ t % 2 * 64 + j < 80 ∧ R (t / 2 * 80 + t % 2 * 64 + j))
theorem byS_congr {R U : Nat → Prop} {A : xH} (h : byS R A) (e : ∀ x, x < 25600 → (R x ↔ U x)) : byS U A := fun t j ht hj => (h t j ht hj).trans ⟨fun ⟨a, b⟩ => ⟨a, (e _ (by omega)).mp b⟩, fun ⟨a, b⟩ => ⟨a, (e _ (by omega)).mpr b⟩⟩
theorem byS_fr {S : Nat → Nat → Prop} {R : Nat → Prop} {A B : xH} (h : byS R A) (hf : fr S A B) (hs : ∀ c k, S c k → c ≠ 55) : byS R B := fun t j ht hj => by
  rw [fr_l hf fun w => hs _ _ w rfl]; exact h t j ht hj
theorem csS_fr {S : Nat → Nat → Prop} {c n : Nat} {R : Nat → Prop} {A B : xH} (h : csS c R n A) (hf : fr S A B) (hs : ∀ d k, S d k → d ≠ c ∧ d ≠ 56 ∧ ¬ (d = 52 ∧ k = 9)) : csS c R n B := by
  obtain ⟨h1, h2, h3, h4⟩ := h
  have e56 : ∀ k, k < n → xi B 56 k = xi A 56 k := fun k _ => fr_i hf fun w => (hs _ _ w).2.1 rfl
  exact ⟨okA_congr h1 e56, by rw [fr_i hf fun w => (hs _ _ w).2.2 ⟨rfl, rfl⟩]; exact h2, fun x hx => by rw [inA_congr e56]; exact h3 x hx, fun t j ht hj => by rw [fr_l hf fun w => (hs _ _ w).1 rfl]; exact h4 t j ht hj⟩
def SBy (c k : Nat) : Prop := c = 55 ∧ 0 ≤ k
def lbP (A : xH) (P : xP) (R : Nat → Prop) (s h : Nat) (x lo hi : Int64) : Prop := ∀ B, fr SBy A B → byS (fun m => R m ∨ vsT s h x lo hi m) B → P none B
def f_X10_leaveBeyond (q : Nat) (y : Int32) (x : Int64) (z : Int32) (lo hi : Int64) (A : xH) (P : xP) : Prop := q = 52 ∧ ∃ (R : Nat → Prop) (s h : Nat), y = nI s ∧ s < 4 ∧ z = nI (h * 64) ∧ h < 2 ∧ byS R A ∧ (∀ j, j < 64 → tl x j = true → h * 64 + j < 80) ∧ (∀ j, j < 64 → tl hi j = true → 64 + j < 80) ∧ lbP A P R s h x lo hi
def lb6 (A : xH) (P : xP) : xM → xK := fun μ L st B => ∃ (R : Nat → Prop) (s h : Nat) (x lo hi rest : Int64) (i : Nat) (o : Option Value), s < 4 ∧ h < 2 ∧ (∀ j, j < 64 → tl x j = true → h * 64 + j < 80) ∧ (∀ j, j < 64 → tl hi j = true → 64 + j < 80) ∧ lbP A P R s h x lo hi ∧ fr SBy A B ∧ byS (fun m => R m ∨ (vsT s h x lo hi m ∧ tl rest (m / 80 % 80 % 64) = false)) B ∧ (∀ j, j < 64 → tl rest j = true → tl x j = true) ∧ i + pc rest ≤ 64 ∧ st = [] ∧ L = [some (.ref 52), some (.int (nI s)), some (.long x), none, some (.int (nI (h * 64))), some (.long lo), none, some (.long hi), none, some (.long rest), none, some (.int (nI i)), o] ∧ μ = (64 - i, 0, 0)
theorem byS_2 {R : Nat → Prop} {A : xH} {r : Nat} {lo hi : Int64} (h : byS R A) (hr : r < 320) (hy : ∀ j, j < 64 → tl hi j = true → 64 + j < 80) : byS (fun m => R m ∨ (m / 80 = r ∧ hq lo hi (m % 80) = true)) (xsl (xsl A 55 (r * 2) (xl A 55 (r * 2) ||| lo)) 55 (r * 2 + 1) (xl A 55 (r * 2 + 1) ||| hi)) := by
  intro t j ht hj
  have h5 := h t j ht hj
  dsimp only
  have hm := Nat.mod_lt t (show 2 > 0 by omega)
  by_cases q : t % 2 * 64 + j < 80
  · obtain ⟨d1, d2, d3, d4⟩ := row_d (a := t / 2) hm hj q
    rw [d1, d2]
    unfold hq
    by_cases e : t = r * 2
    · subst e
      rw [sl_ne (by omega), sl_eq, tl_or, Bool.or_eq_true, h5, if_pos (by omega)]
      rw [show r * 2 % 2 * 64 + j = j by omega]
      constructor
      · rintro (w | w)
        · exact ⟨by omega, Or.inl w.2⟩
        · exact ⟨by omega, Or.inr ⟨by omega, w⟩⟩
      · rintro ⟨a, w | ⟨-, w⟩⟩
        · exact Or.inl ⟨a, w⟩
        · exact Or.inr w
    · by_cases e2 : t = r * 2 + 1
      · subst e2
        rw [sl_eq, tl_or, Bool.or_eq_true, h5, if_neg (by omega), show (r * 2 + 1) % 2 * 64 + j - 64 = j by omega]
        constructor
        · rintro (w | w)
          · exact ⟨w.1, Or.inl w.2⟩
          · exact ⟨q, Or.inr ⟨by omega, w⟩⟩
        · rintro ⟨a, w | ⟨-, w⟩⟩
          · exact Or.inl ⟨a, w⟩
          · exact Or.inr w
      · rw [sl_ne (by omega), sl_ne (by omega), h5]
        constructor
        · rintro ⟨a, w⟩; exact ⟨a, Or.inl w⟩
        · rintro ⟨a, w | ⟨w, -⟩⟩
          · exact ⟨a, w⟩
          · omega
  · constructor
    · intro w
      by_cases e2 : t = r * 2 + 1
      · subst e2
        rw [sl_eq, tl_or, Bool.or_eq_true] at w
        rcases w with w | w
        · exact absurd (h5.mp w).1 q
        · have := hy j hj w; omega
      · have e1 : t ≠ r * 2 := fun e => by omega
        rw [sl_ne (by omega), sl_ne (by omega)] at w
        exact absurd (h5.mp w).1 q
    · rintro ⟨w, -⟩; exact absurd w q
set_option maxRecDepth 20000 in
theorem con_X10_leaveBeyond (l : Launch) : xCon l yX10_leaveBeyond cX10_leaveBeyond 13 none 1 21 xN xN 0 xFT xFT (w_RIJIJJ f_X10_leaveBeyond) := by
  refine m_X10_leaveBeyond (I6 := fun q y x z lo hi A P => lb6 A P) ?_ ?_
  · rintro q y x z lo hi A P ⟨rfl, R, s, h, rfl, hs, rfl, hh, hS, hx, hy, hP⟩
    simp (disch := omega) only [k_X10_leaveBeyond_0, k_X10_leaveBeyond_6, k_X10_leaveBeyond_86, w_J, x_aload, x_cs1, x_dup2, x_iadd, x_icmp_ge, x_if_eq, x_iinc, x_iload, x_imul, x_istore, x_land, x_lcmp, x_lload, x_lneg, x_lor, x_lstore, x_lsub, x_push, x_vret, y_getF, y_lald, y_last, xFT, xbool0, xbool1, Nat.reduceAdd, Nat.zero_add, xgl_0, xgl_s, xgl_n, xst_0, xst_1n, xst_1i, xst_1r, xst_1l, xst_s, set_0, set_s, true_and, and_true, xres, xcat_nil, xcat_i, xcat_r, xcat_l, Nat.add_zero, xble0, xble1, xble2, xble3, xble4, xble5, xble6, xble7, xble8, pk_mul, nI_add, nI_1, nI_leI, nI_ltI, nI_eq, n_in, n_cl, z_eq, z_lt, z_le, z_gt, z_ge, z_qe, o_eq, o_lt, o_le, o_gt, o_ge, vp0, vp1, cl0, cl1, n_sub, n_sub1, n_pm1, n_a0, n_0a, ofn, lN0, Nat.reduceLT, Nat.reduceLeDiff, Nat.reduceMul, Nat.reduceSub, Nat.reduceEqDiff, ne_eq, true_implies, false_implies, not_true_eq_false, not_false_eq_true, and_self, and_true, true_and, and_false, false_and, implies_true, if_true, if_false, i00, i10, i01, i11, ob_0, ob_1, tn_2, ln_2, ob_3, tn_4, ln_4, ob_5, tn_6, ln_6, tn_7, ln_7, ob_8, tn_9, ln_9, tn_10, ln_10, tn_11, ln_11, tn_12, ln_12, tn_13, ln_13, tn_14, ln_14, tn_15, ln_15, tn_16, ln_16, tn_17, ln_17, ob_18, tn_19, ln_19, tn_20, ln_20, tn_21, ln_21, tn_22, ln_22, tn_23, ln_23, tn_24, ln_24, tn_25, ln_25, tn_26, ln_26, tn_27, ln_27, ob_28, tn_29, ln_29, tn_30, ln_30, ob_31, tn_32, ln_32, tn_33, ln_33, ob_34, ob_35, tn_36, ln_36, tn_37, ln_37, tn_38, ln_38, ob_39, tn_40, ln_40, tn_41, ln_41, tn_42, ln_42, tn_43, ln_43, tn_44, ln_44, tn_45, ln_45, tn_46, ln_46, tn_47, ln_47, tn_48, ln_48, tn_49, ln_49, tn_50, ln_50, tn_51, ln_51, ob_52, tn_53, ln_53, tn_54, ln_54, tn_55, ln_55, tn_56, ln_56, ob_57, tn_58, ln_58, tn_59, ln_59, tn_60, ln_60, tn_61, ln_61, tn_62, ln_62, tn_63, ln_63, tn_64, ln_64, tn_65, ln_65, ob_66, tn_67, ln_67, tn_68, ln_68, tn_69, ln_69, tn_70, ln_70, tn_71, ln_71, tn_72, ln_72, tn_73, ln_73, ob_74, tn_75, ln_75, tn_76, ln_76, tn_77, ln_77, tn_78, ln_78, tn_79, ln_79, tn_80, ln_80, tn_81, ln_81, tn_82, ln_82, tn_83, ln_83, ob_84, tn_85, ln_85, tn_86, ln_86, tn_87, ln_87, tn_88, ln_88, tn_89, ln_89, tn_90, ln_90, tn_91, ln_91, tn_92, ln_92, tn_93, ln_93, ob_94, tn_95, ln_95, tn_96, ln_96, tn_97, ln_97, tn_98, ln_98, tn_99, ln_99, tn_100, ln_100, tn_101, ln_101, tn_102, ln_102, tn_103, ln_103, ob_104, tn_105, ln_105, tn_106, ln_106, tn_107, ln_107, tn_108, ln_108, tn_109, ln_109, tn_110, ln_110, tn_111, ln_111, tn_112, ln_112, tn_113, ln_113, ob_114, tn_115, ln_115, tn_116, ln_116, tn_117, ln_117, tn_118, ln_118, tn_119, ln_119, tn_120, ln_120, tn_121, ln_121, tn_122, ln_122, tn_123, ln_123, ob_124, tn_125, ln_125, tn_126, ln_126, tn_127, ln_127, tn_128, ln_128, tn_129, ln_129, tn_130, ln_130, tn_131, ln_131, tn_132, ln_132, tn_133, ln_133, ob_134, tn_135, ln_135, tn_136, ln_136, tn_137, ln_137, tn_138, ln_138, tn_139, ln_139, tn_140, ln_140, tn_141, ln_141, tn_142, ln_142, tn_143, ln_143, ob_144, tn_145, ln_145, tn_146, ln_146, tn_147, ln_147, tn_148, ln_148, tn_149, ln_149, tn_150, ln_150, tn_151, ln_151, tn_152, ln_152, tn_153, ln_153, ob_154, tn_155, ln_155, tn_156, ln_156, tn_157, ln_157, tn_158, ln_158, tn_159, ln_159, tn_160, ln_160, tn_161, ln_161, tn_162, ln_162, tn_163, ln_163, ob_164, tn_165, ln_165, tn_166, ln_166, ob_167, tn_168, ln_168, tn_169, ln_169, tn_170, ln_170, tn_171, ln_171, tn_172, ln_172, tn_173, ln_173, tn_174, ln_174, tn_175, ln_175, tn_176, ln_176, ob_177, tn_178, ln_178, tn_179, ln_179, ob_180, tn_181, ln_181, tn_182, ln_182, tn_183, ln_183, tn_184, ln_184, tn_185, ln_185, tn_186, ln_186, tn_187, ln_187, tn_188, ln_188, tn_189, ln_189, tn_190, ln_190, tn_191, ln_191, tn_192, ln_192, tn_193, ln_193, tn_194, ln_194, tn_195, ln_195, tn_196, ln_196, tn_197, ln_197, tn_198, ln_198, tn_199, ln_199, tn_200, ln_200, tn_201, ln_201, tn_202, ln_202, tn_203, ln_203, tn_204, ln_204, tn_205, ln_205, tn_206, ln_206, tn_207, ln_207, tn_208, ln_208, tn_209, ln_209, tn_210, ln_210, tn_211, ln_211, tn_212, ln_212, tn_213, ln_213, tn_214, ln_214, tn_215, ln_215, tn_216, ln_216, tn_217, ln_217, tn_218, ln_218, tn_219, ln_219, tn_220, ln_220, tn_221, ln_221, tn_222, ln_222, tn_223, ln_223, tn_224, ln_224, tn_225, ln_225, tn_226, ln_226, tn_227, ln_227, tn_228, ln_228, tn_229, ln_229, tn_230, ln_230, lx2, lx3, lx4, lx5, lx6, lx7, lx8, lx9, lx10, lx14, lx15, lx16, lx18, lx20, lx24, lx25, lx27, lx32, lx36, lx40, lx41, lx42, lx43, lx45, lx48, lx52, lx54, lx56, lx57, lx58, lx60, lx61, lx62, lx63, lx64, lx66, lx69, lx73, lx80, lx81, lx84, lx85, lx87, lx94, lx96, lx97, lx120, lx128, lx135, lx160, lx162, lx163, lx165, lx200, lx232, lx242, lx243, lx255, lx256, lx320, lx325, lx400, lx405, lx464, lx512, lx600, lx640, lx752, lx900, lx940, lx1000, lx1024, lx1764, lx3360, lx3840, lx5000, lx6400, lx9050, lx9998, lx9999, lx10000, lx25600, lx76800, lx99999, si_ne, si_eq, sl_ne, sl_eq, xl_si, xi_sl, sA_ne, sA_eq, xl_sA]
    refine xE0 (64 - 0, 0, 0) ⟨R, s, h, x, lo, hi, x, 0, none, hs, hh, hx, hy, hP, fr_rf, byS_congr hS fun m hm => ?_, fun j _ w => w, by have := pc_le x; omega, rfl, rfl, rfl⟩
    constructor
    · exact Or.inl
    · rintro (w | ⟨⟨-, -, w, -⟩, w2⟩)
      · exact w
      · rw [w] at w2; cases w2
  · rintro q y x z lo hi A P - μ L st B ⟨R, s, h, x, lo, hi, rest, i, o, hs, hh, hx, hy, hP, hF, hS, hr, hI, rfl, rfl, rfl⟩
    simp (disch := omega) only [k_X10_leaveBeyond_0, k_X10_leaveBeyond_6, k_X10_leaveBeyond_86, w_J, x_aload, x_cs1, x_dup2, x_iadd, x_icmp_ge, x_if_eq, x_iinc, x_iload, x_imul, x_istore, x_land, x_lcmp, x_lload, x_lneg, x_lor, x_lstore, x_lsub, x_push, x_vret, y_getF, y_lald, y_last, xFT, xbool0, xbool1, Nat.reduceAdd, Nat.zero_add, xgl_0, xgl_s, xgl_n, xst_0, xst_1n, xst_1i, xst_1r, xst_1l, xst_s, set_0, set_s, true_and, and_true, xres, xcat_nil, xcat_i, xcat_r, xcat_l, Nat.add_zero, xble0, xble1, xble2, xble3, xble4, xble5, xble6, xble7, xble8, pk_mul, nI_add, nI_1, nI_leI, nI_ltI, nI_eq, n_in, n_cl, z_eq, z_lt, z_le, z_gt, z_ge, z_qe, o_eq, o_lt, o_le, o_gt, o_ge, vp0, vp1, cl0, cl1, n_sub, n_sub1, n_pm1, n_a0, n_0a, ofn, lN0, Nat.reduceLT, Nat.reduceLeDiff, Nat.reduceMul, Nat.reduceSub, Nat.reduceEqDiff, ne_eq, true_implies, false_implies, not_true_eq_false, not_false_eq_true, and_self, and_true, true_and, and_false, false_and, implies_true, if_true, if_false, i00, i10, i01, i11, ob_0, ob_1, tn_2, ln_2, ob_3, tn_4, ln_4, ob_5, tn_6, ln_6, tn_7, ln_7, ob_8, tn_9, ln_9, tn_10, ln_10, tn_11, ln_11, tn_12, ln_12, tn_13, ln_13, tn_14, ln_14, tn_15, ln_15, tn_16, ln_16, tn_17, ln_17, ob_18, tn_19, ln_19, tn_20, ln_20, tn_21, ln_21, tn_22, ln_22, tn_23, ln_23, tn_24, ln_24, tn_25, ln_25, tn_26, ln_26, tn_27, ln_27, ob_28, tn_29, ln_29, tn_30, ln_30, ob_31, tn_32, ln_32, tn_33, ln_33, ob_34, ob_35, tn_36, ln_36, tn_37, ln_37, tn_38, ln_38, ob_39, tn_40, ln_40, tn_41, ln_41, tn_42, ln_42, tn_43, ln_43, tn_44, ln_44, tn_45, ln_45, tn_46, ln_46, tn_47, ln_47, tn_48, ln_48, tn_49, ln_49, tn_50, ln_50, tn_51, ln_51, ob_52, tn_53, ln_53, tn_54, ln_54, tn_55, ln_55, tn_56, ln_56, ob_57, tn_58, ln_58, tn_59, ln_59, tn_60, ln_60, tn_61, ln_61, tn_62, ln_62, tn_63, ln_63, tn_64, ln_64, tn_65, ln_65, ob_66, tn_67, ln_67, tn_68, ln_68, tn_69, ln_69, tn_70, ln_70, tn_71, ln_71, tn_72, ln_72, tn_73, ln_73, ob_74, tn_75, ln_75, tn_76, ln_76, tn_77, ln_77, tn_78, ln_78, tn_79, ln_79, tn_80, ln_80, tn_81, ln_81, tn_82, ln_82, tn_83, ln_83, ob_84, tn_85, ln_85, tn_86, ln_86, tn_87, ln_87, tn_88, ln_88, tn_89, ln_89, tn_90, ln_90, tn_91, ln_91, tn_92, ln_92, tn_93, ln_93, ob_94, tn_95, ln_95, tn_96, ln_96, tn_97, ln_97, tn_98, ln_98, tn_99, ln_99, tn_100, ln_100, tn_101, ln_101, tn_102, ln_102, tn_103, ln_103, ob_104, tn_105, ln_105, tn_106, ln_106, tn_107, ln_107, tn_108, ln_108, tn_109, ln_109, tn_110, ln_110, tn_111, ln_111, tn_112, ln_112, tn_113, ln_113, ob_114, tn_115, ln_115, tn_116, ln_116, tn_117, ln_117, tn_118, ln_118, tn_119, ln_119, tn_120, ln_120, tn_121, ln_121, tn_122, ln_122, tn_123, ln_123, ob_124, tn_125, ln_125, tn_126, ln_126, tn_127, ln_127, tn_128, ln_128, tn_129, ln_129, tn_130, ln_130, tn_131, ln_131, tn_132, ln_132, tn_133, ln_133, ob_134, tn_135, ln_135, tn_136, ln_136, tn_137, ln_137, tn_138, ln_138, tn_139, ln_139, tn_140, ln_140, tn_141, ln_141, tn_142, ln_142, tn_143, ln_143, ob_144, tn_145, ln_145, tn_146, ln_146, tn_147, ln_147, tn_148, ln_148, tn_149, ln_149, tn_150, ln_150, tn_151, ln_151, tn_152, ln_152, tn_153, ln_153, ob_154, tn_155, ln_155, tn_156, ln_156, tn_157, ln_157, tn_158, ln_158, tn_159, ln_159, tn_160, ln_160, tn_161, ln_161, tn_162, ln_162, tn_163, ln_163, ob_164, tn_165, ln_165, tn_166, ln_166, ob_167, tn_168, ln_168, tn_169, ln_169, tn_170, ln_170, tn_171, ln_171, tn_172, ln_172, tn_173, ln_173, tn_174, ln_174, tn_175, ln_175, tn_176, ln_176, ob_177, tn_178, ln_178, tn_179, ln_179, ob_180, tn_181, ln_181, tn_182, ln_182, tn_183, ln_183, tn_184, ln_184, tn_185, ln_185, tn_186, ln_186, tn_187, ln_187, tn_188, ln_188, tn_189, ln_189, tn_190, ln_190, tn_191, ln_191, tn_192, ln_192, tn_193, ln_193, tn_194, ln_194, tn_195, ln_195, tn_196, ln_196, tn_197, ln_197, tn_198, ln_198, tn_199, ln_199, tn_200, ln_200, tn_201, ln_201, tn_202, ln_202, tn_203, ln_203, tn_204, ln_204, tn_205, ln_205, tn_206, ln_206, tn_207, ln_207, tn_208, ln_208, tn_209, ln_209, tn_210, ln_210, tn_211, ln_211, tn_212, ln_212, tn_213, ln_213, tn_214, ln_214, tn_215, ln_215, tn_216, ln_216, tn_217, ln_217, tn_218, ln_218, tn_219, ln_219, tn_220, ln_220, tn_221, ln_221, tn_222, ln_222, tn_223, ln_223, tn_224, ln_224, tn_225, ln_225, tn_226, ln_226, tn_227, ln_227, tn_228, ln_228, tn_229, ln_229, tn_230, ln_230, lx2, lx3, lx4, lx5, lx6, lx7, lx8, lx9, lx10, lx14, lx15, lx16, lx18, lx20, lx24, lx25, lx27, lx32, lx36, lx40, lx41, lx42, lx43, lx45, lx48, lx52, lx54, lx56, lx57, lx58, lx60, lx61, lx62, lx63, lx64, lx66, lx69, lx73, lx80, lx81, lx84, lx85, lx87, lx94, lx96, lx97, lx120, lx128, lx135, lx160, lx162, lx163, lx165, lx200, lx232, lx242, lx243, lx255, lx256, lx320, lx325, lx400, lx405, lx464, lx512, lx600, lx640, lx752, lx900, lx940, lx1000, lx1024, lx1764, lx3360, lx3840, lx5000, lx6400, lx9050, lx9998, lx9999, lx10000, lx25600, lx76800, lx99999, si_ne, si_eq, sl_ne, sl_eq, xl_si, xi_sl, sA_ne, sA_eq, xl_sA, lcmp0]
    have out : rest = 0 → P none B := fun z => by
      refine hP B hF (byS_congr hS fun m hm => ?_)
      rw [z, tl_0]
      constructor
      · rintro (w | w)
        · exact Or.inl w
        · exact Or.inr w.1
      · rintro (w | w)
        · exact Or.inl w
        · exact Or.inr ⟨w, rfl⟩
    refine ⟨fun z => out (pc_z (by omega)), fun z => ⟨fun z2 => out z2, fun z2 => ?_⟩⟩
    obtain ⟨l, hl⟩ := lowb_of (x := rest) z2
    have hxl := hr l hl.1 hl.2.1
    have hlt := hx l hl.1 hxl
    have hp := pc_rest hl
    refine bitCount_A' (pc_below hl) ?_
    simp (disch := omega) only [k_X10_leaveBeyond_0, k_X10_leaveBeyond_6, k_X10_leaveBeyond_86, w_J, x_aload, x_cs1, x_dup2, x_iadd, x_icmp_ge, x_if_eq, x_iinc, x_iload, x_imul, x_istore, x_land, x_lcmp, x_lload, x_lneg, x_lor, x_lstore, x_lsub, x_push, x_vret, y_getF, y_lald, y_last, xFT, xbool0, xbool1, Nat.reduceAdd, Nat.zero_add, xgl_0, xgl_s, xgl_n, xst_0, xst_1n, xst_1i, xst_1r, xst_1l, xst_s, set_0, set_s, true_and, and_true, xres, xcat_nil, xcat_i, xcat_r, xcat_l, Nat.add_zero, xble0, xble1, xble2, xble3, xble4, xble5, xble6, xble7, xble8, pk_mul, nI_add, nI_1, nI_leI, nI_ltI, nI_eq, n_in, n_cl, z_eq, z_lt, z_le, z_gt, z_ge, z_qe, o_eq, o_lt, o_le, o_gt, o_ge, vp0, vp1, cl0, cl1, n_sub, n_sub1, n_pm1, n_a0, n_0a, ofn, lN0, Nat.reduceLT, Nat.reduceLeDiff, Nat.reduceMul, Nat.reduceSub, Nat.reduceEqDiff, ne_eq, true_implies, false_implies, not_true_eq_false, not_false_eq_true, and_self, and_true, true_and, and_false, false_and, implies_true, if_true, if_false, i00, i10, i01, i11, ob_0, ob_1, tn_2, ln_2, ob_3, tn_4, ln_4, ob_5, tn_6, ln_6, tn_7, ln_7, ob_8, tn_9, ln_9, tn_10, ln_10, tn_11, ln_11, tn_12, ln_12, tn_13, ln_13, tn_14, ln_14, tn_15, ln_15, tn_16, ln_16, tn_17, ln_17, ob_18, tn_19, ln_19, tn_20, ln_20, tn_21, ln_21, tn_22, ln_22, tn_23, ln_23, tn_24, ln_24, tn_25, ln_25, tn_26, ln_26, tn_27, ln_27, ob_28, tn_29, ln_29, tn_30, ln_30, ob_31, tn_32, ln_32, tn_33, ln_33, ob_34, ob_35, tn_36, ln_36, tn_37, ln_37, tn_38, ln_38, ob_39, tn_40, ln_40, tn_41, ln_41, tn_42, ln_42, tn_43, ln_43, tn_44, ln_44, tn_45, ln_45, tn_46, ln_46, tn_47, ln_47, tn_48, ln_48, tn_49, ln_49, tn_50, ln_50, tn_51, ln_51, ob_52, tn_53, ln_53, tn_54, ln_54, tn_55, ln_55, tn_56, ln_56, ob_57, tn_58, ln_58, tn_59, ln_59, tn_60, ln_60, tn_61, ln_61, tn_62, ln_62, tn_63, ln_63, tn_64, ln_64, tn_65, ln_65, ob_66, tn_67, ln_67, tn_68, ln_68, tn_69, ln_69, tn_70, ln_70, tn_71, ln_71, tn_72, ln_72, tn_73, ln_73, ob_74, tn_75, ln_75, tn_76, ln_76, tn_77, ln_77, tn_78, ln_78, tn_79, ln_79, tn_80, ln_80, tn_81, ln_81, tn_82, ln_82, tn_83, ln_83, ob_84, tn_85, ln_85, tn_86, ln_86, tn_87, ln_87, tn_88, ln_88, tn_89, ln_89, tn_90, ln_90, tn_91, ln_91, tn_92, ln_92, tn_93, ln_93, ob_94, tn_95, ln_95, tn_96, ln_96, tn_97, ln_97, tn_98, ln_98, tn_99, ln_99, tn_100, ln_100, tn_101, ln_101, tn_102, ln_102, tn_103, ln_103, ob_104, tn_105, ln_105, tn_106, ln_106, tn_107, ln_107, tn_108, ln_108, tn_109, ln_109, tn_110, ln_110, tn_111, ln_111, tn_112, ln_112, tn_113, ln_113, ob_114, tn_115, ln_115, tn_116, ln_116, tn_117, ln_117, tn_118, ln_118, tn_119, ln_119, tn_120, ln_120, tn_121, ln_121, tn_122, ln_122, tn_123, ln_123, ob_124, tn_125, ln_125, tn_126, ln_126, tn_127, ln_127, tn_128, ln_128, tn_129, ln_129, tn_130, ln_130, tn_131, ln_131, tn_132, ln_132, tn_133, ln_133, ob_134, tn_135, ln_135, tn_136, ln_136, tn_137, ln_137, tn_138, ln_138, tn_139, ln_139, tn_140, ln_140, tn_141, ln_141, tn_142, ln_142, tn_143, ln_143, ob_144, tn_145, ln_145, tn_146, ln_146, tn_147, ln_147, tn_148, ln_148, tn_149, ln_149, tn_150, ln_150, tn_151, ln_151, tn_152, ln_152, tn_153, ln_153, ob_154, tn_155, ln_155, tn_156, ln_156, tn_157, ln_157, tn_158, ln_158, tn_159, ln_159, tn_160, ln_160, tn_161, ln_161, tn_162, ln_162, tn_163, ln_163, ob_164, tn_165, ln_165, tn_166, ln_166, ob_167, tn_168, ln_168, tn_169, ln_169, tn_170, ln_170, tn_171, ln_171, tn_172, ln_172, tn_173, ln_173, tn_174, ln_174, tn_175, ln_175, tn_176, ln_176, ob_177, tn_178, ln_178, tn_179, ln_179, ob_180, tn_181, ln_181, tn_182, ln_182, tn_183, ln_183, tn_184, ln_184, tn_185, ln_185, tn_186, ln_186, tn_187, ln_187, tn_188, ln_188, tn_189, ln_189, tn_190, ln_190, tn_191, ln_191, tn_192, ln_192, tn_193, ln_193, tn_194, ln_194, tn_195, ln_195, tn_196, ln_196, tn_197, ln_197, tn_198, ln_198, tn_199, ln_199, tn_200, ln_200, tn_201, ln_201, tn_202, ln_202, tn_203, ln_203, tn_204, ln_204, tn_205, ln_205, tn_206, ln_206, tn_207, ln_207, tn_208, ln_208, tn_209, ln_209, tn_210, ln_210, tn_211, ln_211, tn_212, ln_212, tn_213, ln_213, tn_214, ln_214, tn_215, ln_215, tn_216, ln_216, tn_217, ln_217, tn_218, ln_218, tn_219, ln_219, tn_220, ln_220, tn_221, ln_221, tn_222, ln_222, tn_223, ln_223, tn_224, ln_224, tn_225, ln_225, tn_226, ln_226, tn_227, ln_227, tn_228, ln_228, tn_229, ln_229, tn_230, ln_230, lx2, lx3, lx4, lx5, lx6, lx7, lx8, lx9, lx10, lx14, lx15, lx16, lx18, lx20, lx24, lx25, lx27, lx32, lx36, lx40, lx41, lx42, lx43, lx45, lx48, lx52, lx54, lx56, lx57, lx58, lx60, lx61, lx62, lx63, lx64, lx66, lx69, lx73, lx80, lx81, lx84, lx85, lx87, lx94, lx96, lx97, lx120, lx128, lx135, lx160, lx162, lx163, lx165, lx200, lx232, lx242, lx243, lx255, lx256, lx320, lx325, lx400, lx405, lx464, lx512, lx600, lx640, lx752, lx900, lx940, lx1000, lx1024, lx1764, lx3360, lx3840, lx5000, lx6400, lx9050, lx9998, lx9999, lx10000, lx25600, lx76800, lx99999, si_ne, si_eq, sl_ne, sl_eq, xl_si, xi_sl, sA_ne, sA_eq, xl_sA]
    refine ⟨by omega, by omega, by omega, by omega, ?_⟩
    refine xB1 (b := 64 - (i + 1)) (by omega) ⟨R, s, h, x, lo, hi, rest &&& (rest - 1), i + 1, _, hs, hh, hx, hy, hP, fr_tr hF (fr_sl (fr_sl fr_rf ⟨rfl, Nat.zero_le _⟩) ⟨rfl, Nat.zero_le _⟩), byS_congr (byS_2 (r := s * 80 + h * 64 + l) hS (by omega) hy) fun m hm => ?_, fun j hj w => ?_, by omega, rfl, rfl, rfl⟩
    · rw [vsT_1 hl hxl hh hlt hm, or_assoc]
    · rw [tl_rest hl hj, Bool.and_eq_true] at w
      exact hr j hj w.1

