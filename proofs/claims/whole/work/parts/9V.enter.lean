/-! ===== the class's enter ===== -/
theorem d_X10_enter_0 : decode cX10_enter 0 = .ok (.lload_n 3, 1) := by decide +kernel
theorem d_X10_enter_1 : decode cX10_enter 1 = .ok (.aload_n 1, 1) := by decide +kernel
theorem d_X10_enter_2 : decode cX10_enter 2 = .ok (.iload_n 2, 1) := by decide +kernel
theorem d_X10_enter_3 : decode cX10_enter 3 = .ok (.laload, 1) := by decide +kernel
theorem d_X10_enter_4 : decode cX10_enter 4 = .ok (.ldc2_w 61, 3) := by decide +kernel
theorem d_X10_enter_7 : decode cX10_enter 7 = .ok (.lxor, 1) := by decide +kernel
theorem d_X10_enter_8 : decode cX10_enter 8 = .ok (.land, 1) := by decide +kernel
theorem d_X10_enter_9 : decode cX10_enter 9 = .ok (.lstore 5, 2) := by decide +kernel
theorem d_X10_enter_11 : decode cX10_enter 11 = .ok (.aload_n 1, 1) := by decide +kernel
theorem d_X10_enter_12 : decode cX10_enter 12 = .ok (.iload_n 2, 1) := by decide +kernel
theorem d_X10_enter_13 : decode cX10_enter 13 = .ok (.dup2, 1) := by decide +kernel
theorem d_X10_enter_14 : decode cX10_enter 14 = .ok (.laload, 1) := by decide +kernel
theorem d_X10_enter_15 : decode cX10_enter 15 = .ok (.lload 5, 2) := by decide +kernel
theorem d_X10_enter_17 : decode cX10_enter 17 = .ok (.lor, 1) := by decide +kernel
theorem d_X10_enter_18 : decode cX10_enter 18 = .ok (.lastore, 1) := by decide +kernel
theorem d_X10_enter_19 : decode cX10_enter 19 = .ok (.iload_n 2, 1) := by decide +kernel
theorem d_X10_enter_20 : decode cX10_enter 20 = .ok (.iconst 1, 1) := by decide +kernel
theorem d_X10_enter_21 : decode cX10_enter 21 = .ok (.ishr, 1) := by decide +kernel
theorem d_X10_enter_22 : decode cX10_enter 22 = .ok (.bipush 80, 2) := by decide +kernel
theorem d_X10_enter_24 : decode cX10_enter 24 = .ok (.imul, 1) := by decide +kernel
theorem d_X10_enter_25 : decode cX10_enter 25 = .ok (.iload_n 2, 1) := by decide +kernel
theorem d_X10_enter_26 : decode cX10_enter 26 = .ok (.iconst 1, 1) := by decide +kernel
theorem d_X10_enter_27 : decode cX10_enter 27 = .ok (.iand, 1) := by decide +kernel
theorem d_X10_enter_28 : decode cX10_enter 28 = .ok (.bipush 64, 2) := by decide +kernel
theorem d_X10_enter_30 : decode cX10_enter 30 = .ok (.imul, 1) := by decide +kernel
theorem d_X10_enter_31 : decode cX10_enter 31 = .ok (.iadd, 1) := by decide +kernel
theorem d_X10_enter_32 : decode cX10_enter 32 = .ok (.istore 7, 2) := by decide +kernel
theorem d_X10_enter_34 : decode cX10_enter 34 = .ok (.iconst 0, 1) := by decide +kernel
theorem d_X10_enter_35 : decode cX10_enter 35 = .ok (.istore 8, 2) := by decide +kernel
theorem d_X10_enter_37 : decode cX10_enter 37 = .ok (.iload 8, 2) := by decide +kernel
theorem d_X10_enter_39 : decode cX10_enter 39 = .ok (.bipush 64, 2) := by decide +kernel
theorem d_X10_enter_41 : decode cX10_enter 41 = .ok (.if_icmp .ge 70, 3) := by decide +kernel
theorem d_X10_enter_44 : decode cX10_enter 44 = .ok (.lload 5, 2) := by decide +kernel
theorem d_X10_enter_46 : decode cX10_enter 46 = .ok (.lconst 0, 1) := by decide +kernel
theorem d_X10_enter_47 : decode cX10_enter 47 = .ok (.lcmp, 1) := by decide +kernel
theorem d_X10_enter_48 : decode cX10_enter 48 = .ok (.ifCond .eq 63, 3) := by decide +kernel
theorem d_X10_enter_51 : decode cX10_enter 51 = .ok (.aload_n 0, 1) := by decide +kernel
theorem d_X10_enter_52 : decode cX10_enter 52 = .ok (.getfield 46, 3) := by decide +kernel
theorem d_X10_enter_55 : decode cX10_enter 55 = .ok (.aload_n 0, 1) := by decide +kernel
theorem d_X10_enter_56 : decode cX10_enter 56 = .ok (.getfield 21, 3) := by decide +kernel
theorem d_X10_enter_59 : decode cX10_enter 59 = .ok (.arraylength, 1) := by decide +kernel
theorem d_X10_enter_60 : decode cX10_enter 60 = .ok (.if_icmp .ge 51, 3) := by decide +kernel
theorem d_X10_enter_63 : decode cX10_enter 63 = .ok (.aload_n 0, 1) := by decide +kernel
theorem d_X10_enter_64 : decode cX10_enter 64 = .ok (.getfield 21, 3) := by decide +kernel
theorem d_X10_enter_67 : decode cX10_enter 67 = .ok (.aload_n 0, 1) := by decide +kernel
theorem d_X10_enter_68 : decode cX10_enter 68 = .ok (.getfield 46, 3) := by decide +kernel
theorem d_X10_enter_71 : decode cX10_enter 71 = .ok (.iload 7, 2) := by decide +kernel
theorem d_X10_enter_73 : decode cX10_enter 73 = .ok (.lload 5, 2) := by decide +kernel
theorem d_X10_enter_75 : decode cX10_enter 75 = .ok (.lload 5, 2) := by decide +kernel
theorem d_X10_enter_77 : decode cX10_enter 77 = .ok (.lneg, 1) := by decide +kernel
theorem d_X10_enter_78 : decode cX10_enter 78 = .ok (.land, 1) := by decide +kernel
theorem d_X10_enter_79 : decode cX10_enter 79 = .ok (.lconst 1, 1) := by decide +kernel
theorem d_X10_enter_80 : decode cX10_enter 80 = .ok (.lsub, 1) := by decide +kernel
theorem d_X10_enter_81 : decode cX10_enter 81 = .ok (.invokestatic 63, 3) := by decide +kernel
theorem d_X10_enter_84 : decode cX10_enter 84 = .ok (.iadd, 1) := by decide +kernel
theorem d_X10_enter_85 : decode cX10_enter 85 = .ok (.iastore, 1) := by decide +kernel
theorem d_X10_enter_86 : decode cX10_enter 86 = .ok (.aload_n 0, 1) := by decide +kernel
theorem d_X10_enter_87 : decode cX10_enter 87 = .ok (.dup, 1) := by decide +kernel
theorem d_X10_enter_88 : decode cX10_enter 88 = .ok (.getfield 46, 3) := by decide +kernel
theorem d_X10_enter_91 : decode cX10_enter 91 = .ok (.iconst 1, 1) := by decide +kernel
theorem d_X10_enter_92 : decode cX10_enter 92 = .ok (.iadd, 1) := by decide +kernel
theorem d_X10_enter_93 : decode cX10_enter 93 = .ok (.putfield 46, 3) := by decide +kernel
theorem d_X10_enter_96 : decode cX10_enter 96 = .ok (.lload 5, 2) := by decide +kernel
theorem d_X10_enter_98 : decode cX10_enter 98 = .ok (.lload 5, 2) := by decide +kernel
theorem d_X10_enter_100 : decode cX10_enter 100 = .ok (.lconst 1, 1) := by decide +kernel
theorem d_X10_enter_101 : decode cX10_enter 101 = .ok (.lsub, 1) := by decide +kernel
theorem d_X10_enter_102 : decode cX10_enter 102 = .ok (.land, 1) := by decide +kernel
theorem d_X10_enter_103 : decode cX10_enter 103 = .ok (.lstore 5, 2) := by decide +kernel
theorem d_X10_enter_105 : decode cX10_enter 105 = .ok (.iinc 8 1, 3) := by decide +kernel
theorem d_X10_enter_108 : decode cX10_enter 108 = .ok (.goto (-71), 3) := by decide +kernel
theorem d_X10_enter_111 : decode cX10_enter 111 = .ok (.return_, 1) := by decide +kernel
def k_X10_enter_0 (P : xP) (C37 : xK) : xK := x_lload 3 (x_aload 1 (x_iload 2 (x_lald xN (x_push (.long (-1)) (x_lxor (x_land (x_lstore 5 (x_aload 1 (x_iload 2 (x_dup2 (x_lald xN (x_lload 5 (x_lor (x_last xN (x_iload 2 (x_push (.int 1) (x_ishr (x_push (.int 80) (x_imul (x_iload 2 (x_push (.int 1) (x_iand (x_push (.int 64) (x_imul (x_iadd (x_istore 7 (x_push (.int 0) (x_istore 8 (C37)))))))))))))))))))))))))))))
set_option maxRecDepth 20000 in
theorem t_X10_enter_0 {p : Program} {l : Launch} {e : Env} {s : State} {m : MethodId} {args : Array Value} {below : List Frame} {meth : Method} {c : Code} {g : xG} (X : xX p s m args c meth cX10_enter RX10 9 g) (hr : meth.sig.returnType = none) {P : xP} {C37 : xK} (h37 : xAt p l e { frames := 1, cells := 0, slots := 0, locals := 21 } s m args below meth c g 9 xFT xN 0 0 (MQ below (xQc g xFT xN P) args s 0 0 (xFr g)) C37 37) : xAt p l e { frames := 1, cells := 0, slots := 0, locals := 21 } s m args below meth c g 9 xFT xN 0 0 (MQ below (xQc g xFT xN P) args s 0 0 (xFr g)) (k_X10_enter_0 P C37) 0 := by
  unfold k_X10_enter_0
  refine r_lload_n (pc := 0) X d_X10_enter_0 fn3 ?_
  refine r_aload_n (pc := 1) X d_X10_enter_1 fn1 ?_
  refine r_iload_n (pc := 2) X d_X10_enter_2 fn2 ?_
  refine r_lald (pc := 3) X d_X10_enter_3 ?_
  refine r_ldc2 (pc := 4) X cw_RX10_61 d_X10_enter_4 ?_
  refine r_lxor (pc := 7) X d_X10_enter_7 ?_
  refine r_land (pc := 8) X d_X10_enter_8 ?_
  refine r_lstore (pc := 9) X d_X10_enter_9 (by decide +kernel) ?_
  refine r_aload_n (pc := 11) X d_X10_enter_11 fn1 ?_
  refine r_iload_n (pc := 12) X d_X10_enter_12 fn2 ?_
  refine r_dup2 (pc := 13) X d_X10_enter_13 ?_
  refine r_lald (pc := 14) X d_X10_enter_14 ?_
  refine r_lload (pc := 15) X d_X10_enter_15 ?_
  refine r_lor (pc := 17) X d_X10_enter_17 ?_
  refine r_last (pc := 18) X d_X10_enter_18 ?_
  refine r_iload_n (pc := 19) X d_X10_enter_19 fn2 ?_
  refine r_iconst (pc := 20) X d_X10_enter_20 (by decide +kernel) ?_
  refine r_ishr (pc := 21) X d_X10_enter_21 ?_
  refine r_bipush (pc := 22) X d_X10_enter_22 (by decide +kernel) ?_
  refine r_imul (pc := 24) X d_X10_enter_24 ?_
  refine r_iload_n (pc := 25) X d_X10_enter_25 fn2 ?_
  refine r_iconst (pc := 26) X d_X10_enter_26 (by decide +kernel) ?_
  refine r_iand (pc := 27) X d_X10_enter_27 ?_
  refine r_bipush (pc := 28) X d_X10_enter_28 (by decide +kernel) ?_
  refine r_imul (pc := 30) X d_X10_enter_30 ?_
  refine r_iadd (pc := 31) X d_X10_enter_31 ?_
  refine r_istore (pc := 32) X d_X10_enter_32 (by decide +kernel) ?_
  refine r_iconst (pc := 34) X d_X10_enter_34 (by decide +kernel) ?_
  refine r_istore (pc := 35) X d_X10_enter_35 (by decide +kernel) ?_
  exact h37
def k_X10_enter_111 (P : xP) : xK := x_vret P
set_option maxRecDepth 20000 in
theorem t_X10_enter_111 {p : Program} {l : Launch} {e : Env} {s : State} {m : MethodId} {args : Array Value} {below : List Frame} {meth : Method} {c : Code} {g : xG} (X : xX p s m args c meth cX10_enter RX10 9 g) (hr : meth.sig.returnType = none) {P : xP} : xAt p l e { frames := 1, cells := 0, slots := 0, locals := 21 } s m args below meth c g 9 xFT xN 0 0 (MQ below (xQc g xFT xN P) args s 0 0 (xFr g)) (k_X10_enter_111 P) 111 := by
  unfold k_X10_enter_111
  exact r_vret (pc := 111) X hr d_X10_enter_111
def k_X10_enter_37 (P : xP) (C37 : xK) : xK := x_iload 8 (x_push (.int 64) (x_icmp_ge ((k_X10_enter_111 P)) (x_lload 5 (x_push (.long 0) (x_lcmp (x_if_eq ((k_X10_enter_111 P)) (x_aload 0 (y_getI 52 9 (x_aload 0 (y_getF 52 56 (y_alen 56 25600 (x_icmp_ge ((k_X10_enter_111 P)) (x_aload 0 (y_getF 52 56 (x_aload 0 (y_getI 52 9 (x_iload 7 (x_lload 5 (x_lload 5 (x_lneg (x_land (x_push (.long 1) (x_lsub (x_cs1 (w_J f_J13_bitCount_95d88) (x_iadd (y_iast 56 25600 (x_aload 0 (x_dup (y_getI 52 9 (x_push (.int 1) (x_iadd (y_putI 52 9 (x_lload 5 (x_lload 5 (x_push (.long 1) (x_lsub (x_land (x_lstore 5 (x_iinc 8 1 (C37))))))))))))))))))))))))))))))))))))))))
set_option maxRecDepth 20000 in
theorem t_X10_enter_37 {p : Program} {l : Launch} {e : Env} {s : State} {m : MethodId} {args : Array Value} {below : List Frame} {meth : Method} {c : Code} {g : xG} (X : xX p s m args c meth cX10_enter RX10 9 g) (hr : meth.sig.returnType = none) {P : xP} {C37 : xK} (h37 : xAt p l e { frames := 1, cells := 0, slots := 0, locals := 21 } s m args below meth c g 9 xFT xN 0 0 (MQ below (xQc g xFT xN P) args s 0 0 (xFr g)) C37 37) : xAt p l e { frames := 1, cells := 0, slots := 0, locals := 21 } s m args below meth c g 9 xFT xN 0 0 (MQ below (xQc g xFT xN P) args s 0 0 (xFr g)) (k_X10_enter_37 P C37) 37 := by
  unfold k_X10_enter_37
  refine r_iload (pc := 37) X d_X10_enter_37 ?_
  refine r_bipush (pc := 39) X d_X10_enter_39 (by decide +kernel) ?_
  refine r_icmp_ge (pc := 41) (tgt := 111) X d_X10_enter_41 (by decide +kernel) ?_ ?_
  · exact t_X10_enter_111 X hr
  · refine r_lload (pc := 44) X d_X10_enter_44 ?_
    refine r_lconst (pc := 46) X d_X10_enter_46 (by decide +kernel) ?_
    refine r_lcmp (pc := 47) X d_X10_enter_47 ?_
    refine r_if_eq (pc := 48) (tgt := 111) X d_X10_enter_48 (by decide +kernel) ?_ ?_
    · exact t_X10_enter_111 X hr
    · refine r_aload_n (pc := 51) X d_X10_enter_51 fn0 ?_
      refine s_getI (pc := 52) (ci := 10) X xok10 (by decide +kernel) ob_52 (by decide +kernel) fl_RX10_46 d_X10_enter_52 ?_
      refine r_aload_n (pc := 55) X d_X10_enter_55 fn0 ?_
      refine s_getF (pc := 56) (ci := 10) (k := 7) X xok10 (by decide +kernel) ob_52 trivial ly_52_7 (by decide +kernel) fl_RX10_21 d_X10_enter_56 ?_
      refine s_alen (pc := 59) (q := 56) X (by rw [tn_56]; decide +kernel) ln_56 d_X10_enter_59 ?_
      refine r_icmp_ge (pc := 60) (tgt := 111) X d_X10_enter_60 (by decide +kernel) ?_ ?_
      · exact t_X10_enter_111 X hr
      · refine r_aload_n (pc := 63) X d_X10_enter_63 fn0 ?_
        refine s_getF (pc := 64) (ci := 10) (k := 7) X xok10 (by decide +kernel) ob_52 trivial ly_52_7 (by decide +kernel) fl_RX10_21 d_X10_enter_64 ?_
        refine r_aload_n (pc := 67) X d_X10_enter_67 fn0 ?_
        refine s_getI (pc := 68) (ci := 10) X xok10 (by decide +kernel) ob_52 (by decide +kernel) fl_RX10_46 d_X10_enter_68 ?_
        refine r_iload (pc := 71) X d_X10_enter_71 ?_
        refine r_lload (pc := 73) X d_X10_enter_73 ?_
        refine r_lload (pc := 75) X d_X10_enter_75 ?_
        refine r_lneg (pc := 77) X d_X10_enter_77 ?_
        refine r_land (pc := 78) X d_X10_enter_78 ?_
        refine r_lconst (pc := 79) X d_X10_enter_79 (by decide +kernel) ?_
        refine r_lsub (pc := 80) X d_X10_enter_80 ?_
        refine r_cs1 (pc := 81) X (con_J13_bitCount_95d88 l) sf_J13_bitCount_95d88 ml_RX10_63 (by decide +kernel) (by decide +kernel) d_X10_enter_81 ?_
        refine r_iadd (pc := 84) X d_X10_enter_84 ?_
        refine s_iast (pc := 85) X tn_56 ln_56 d_X10_enter_85 ?_
        refine r_aload_n (pc := 86) X d_X10_enter_86 fn0 ?_
        refine r_dup (pc := 87) X d_X10_enter_87 ?_
        refine s_getI (pc := 88) (ci := 10) X xok10 (by decide +kernel) ob_52 (by decide +kernel) fl_RX10_46 d_X10_enter_88 ?_
        refine r_iconst (pc := 91) X d_X10_enter_91 (by decide +kernel) ?_
        refine r_iadd (pc := 92) X d_X10_enter_92 ?_
        refine s_putI (pc := 93) (ci := 10) X xok10 (by decide +kernel) ob_52 (by decide +kernel) (by decide +kernel) (by decide +kernel) fl_RX10_46 d_X10_enter_93 ?_
        refine r_lload (pc := 96) X d_X10_enter_96 ?_
        refine r_lload (pc := 98) X d_X10_enter_98 ?_
        refine r_lconst (pc := 100) X d_X10_enter_100 (by decide +kernel) ?_
        refine r_lsub (pc := 101) X d_X10_enter_101 ?_
        refine r_land (pc := 102) X d_X10_enter_102 ?_
        refine r_lstore (pc := 103) X d_X10_enter_103 (by decide +kernel) ?_
        refine r_iinc (pc := 105) X d_X10_enter_105 (by decide +kernel) (by decide +kernel) ?_
        refine r_goto (pc := 108) (tgt := 37) X d_X10_enter_108 (by decide +kernel) ?_
        exact h37
set_option maxRecDepth 20000 in
theorem m_X10_enter {l : Launch} {f : Nat → Nat → Int32 → Int64 → xH → xP → Prop}  {I37 : Nat → Nat → Int32 → Int64 → xH → xP → xM → xK}
    (v0 : ∀ (a0 : Nat) (a1 : Nat) (a2 : Int32) (a3 : Int64) (A : xH) (P : xP), f a0 a1 a2 a3 A P → k_X10_enter_0 P (xE (I37 a0 a1 a2 a3 A P)) [some (.ref a0), some (.ref a1), some (.int a2), some (.long a3), none, none, none, none, none] [] A)
    (v37 : ∀ (a0 : Nat) (a1 : Nat) (a2 : Int32) (a3 : Int64) (A : xH) (P : xP), f a0 a1 a2 a3 A P → ∀ (μ : xM) (L : xL) (st : List Value) (B : xH), I37 a0 a1 a2 a3 A P μ L st B → k_X10_enter_37 P (xB (I37 a0 a1 a2 a3 A P) μ) L st B) : xCon l yX10_enter cX10_enter 9 none 1 21 xN xN 0 xFT xFT (w_RRIJ f) := by
  refine xc_RRIJ (plainFor_of_name pn_RX10) (by decide +kernel) (fun p e s m args below meth c g a0 a1 a2 a3 A P h X hr _ => ?_)
  have h37 := x_loop1 (p := p) (l := l) (e := e) (R := { frames := 1, cells := 0, slots := 0, locals := 21 }) (s := s) (m := m) (args := args) (below := below) (meth := meth) (c := c) (g := g) (nL := 9) (F := xFT) (n := xN) (cells := 0) (slots := 0) (Q := MQ below (xQc g xFT xN P) args s 0 0 (xFr g)) (I := I37 a0 a1 a2 a3 A P) (pc1 := 37) (fun μ i37 => xAt_mono (t_X10_enter_37 (P := P) X hr i37) (v37 a0 a1 a2 a3 A P h μ))
  exact ⟨_, v0 a0 a1 a2 a3 A P h, t_X10_enter_0 X hr h37⟩
theorem row_d {a e j : Nat} (he : e < 2) (hj : j < 64) (h : e * 64 + j < 80) : (a * 80 + e * 64 + j) / 80 = a ∧ (a * 80 + e * 64 + j) % 80 = e * 64 + j ∧ (a * 80 + e * 64 + j) % 80 / 64 = e ∧ (a * 80 + e * 64 + j) % 80 % 64 = j := by
  have e1 : (a * 80 + e * 64 + j) / 80 = a := by omega
  have e2 : (a * 80 + e * 64 + j) % 80 = e * 64 + j := by omega
  rw [e2]
  exact ⟨e1, rfl, by omega, by omega⟩
/-- a set of nodes: in the queue, and as bits -/
def csS (c : Nat) (R : Nat → Prop) (n : Nat) (A : xH) : Prop := okA A 56 n ∧ xi A 52 9 = nI n ∧ (∀ x, x < 25600 → (inA A 56 n x ↔ R x)) ∧ ∀ t j, t < 640 → j < 64 → (tl (xl A c t) j = true ↔ t % 2 * 64 + j < 80 ∧ R (t / 2 * 80 + t % 2 * 64 + j))
theorem csS_congr {c n : Nat} {R U : Nat → Prop} {A : xH} (h : csS c R n A) (e : ∀ x, x < 25600 → (R x ↔ U x)) : csS c U n A := by
  obtain ⟨h1, h2, h3, h4⟩ := h
  refine ⟨h1, h2, fun x hx => (h3 x hx).trans (e x hx), fun t j ht hj => (h4 t j ht hj).trans ?_⟩
  constructor
  · rintro ⟨a, b⟩; exact ⟨a, (e _ (by omega)).mp b⟩
  · rintro ⟨a, b⟩; exact ⟨a, (e _ (by omega)).mpr b⟩
def SEn (c d k : Nat) : Prop := d = c ∨ d = 56 ∨ (d = 52 ∧ k = 9)
/-- what a row's half has -/
def enV (t : Nat) (x : Int64) (m : Nat) : Prop := m / 80 = t / 2 ∧ m % 80 / 64 = t % 2 ∧ tl x (m % 80 % 64) = true
def enP (A : xH) (P : xP) (c : Nat) (R : Nat → Prop) (n t : Nat) (x : Int64) : Prop := ∀ B n', fr (SEn c) A B → n ≤ n' → (∀ k, k < n → xi B 56 k = xi A 56 k) → csS c (fun m => R m ∨ enV t x m) n' B → P none B
def f_X10_enter (q c : Nat) (y : Int32) (x : Int64) (A : xH) (P : xP) : Prop := q = 52 ∧ (c = 53 ∨ c = 54) ∧ ∃ (R : Nat → Prop) (n t : Nat), y = nI t ∧ t < 640 ∧ csS c R n A ∧ (∀ j, j < 64 → tl x j = true → t % 2 * 64 + j < 80) ∧ enP A P c R n t x
def en37 (A : xH) (P : xP) : xM → xK := fun μ L st B => ∃ (c : Nat) (R : Nat → Prop) (n t : Nat) (x rest : Int64) (i n' : Nat), (c = 53 ∨ c = 54) ∧ t < 640 ∧ (∀ j, j < 64 → tl x j = true → t % 2 * 64 + j < 80) ∧ enP A P c R n t x ∧ fr (SEn c) A B ∧ n ≤ n' ∧ (∀ k, k < n → xi B 56 k = xi A 56 k) ∧ okA B 56 n' ∧ xi B 52 9 = nI n' ∧ (∀ m, m < 25600 → (inA B 56 n' m ↔ R m ∨ (enV t x m ∧ tl rest (m % 80 % 64) = false))) ∧ (∀ t' j, t' < 640 → j < 64 → (tl (xl B c t') j = true ↔ t' % 2 * 64 + j < 80 ∧ (R (t' / 2 * 80 + t' % 2 * 64 + j) ∨ enV t x (t' / 2 * 80 + t' % 2 * 64 + j)))) ∧ (∀ j, j < 64 → tl rest j = true → tl x j = true ∧ ¬ R (t / 2 * 80 + t % 2 * 64 + j)) ∧ i + pc rest ≤ 64 ∧ st = [] ∧ L = [some (.ref 52), some (.ref c), some (.int (nI t)), some (.long x), none, some (.long rest), none, some (.int (nI (t / 2 * 80 + t % 2 * 64))), some (.int (nI i))] ∧ μ = (64 - i, 0, 0)
set_option maxRecDepth 20000 in
theorem con_X10_enter (l : Launch) : xCon l yX10_enter cX10_enter 9 none 1 21 xN xN 0 xFT xFT (w_RRIJ f_X10_enter) := by
  refine m_X10_enter (I37 := fun q c y x A P => en37 A P) ?_ ?_
  · rintro q c y x A P ⟨rfl, hc, R, n, t, rfl, ht, hS, hx, hP⟩
    obtain ⟨h1, h2, h3, h4⟩ := hS
    have tc : xtn xN c = 2 := by rcases hc with rfl | rfl; exact tn_53; exact tn_54
    have nc : (xsh c).2 = 640 := by rcases hc with rfl | rfl; exact ln_53; exact ln_54
    have a1 : nI t &&& 1 = nI (t % 2) := pk_andN (n := t) (by omega) 1 (m := nI 1) (by decide +kernel)
    have s1 : nI t >>> (1 &&& 31) = nI (t / 2) := pk_shrN (n := t) (by omega) (nI 1) 1 (by decide +kernel)
    simp (disch := omega) only [k_X10_enter_0, k_X10_enter_37, k_X10_enter_111, w_J, x_aload, x_cs1, x_dup, x_dup2, x_iadd, x_iand, x_icmp_ge, x_if_eq, x_iinc, x_iload, x_imul, x_ishr, x_istore, x_lald, x_land, x_last, x_lcmp, x_lload, x_lneg, x_lor, x_lstore, x_lsub, x_lxor, x_push, x_vret, y_alen, y_getF, y_getI, y_iast, y_putI, xFT, xbool0, xbool1, Nat.reduceAdd, Nat.zero_add, xgl_0, xgl_s, xgl_n, xst_0, xst_1n, xst_1i, xst_1r, xst_1l, xst_s, set_0, set_s, true_and, and_true, xres, xcat_nil, xcat_i, xcat_r, xcat_l, Nat.add_zero, xble0, xble1, xble2, xble3, xble4, xble5, xble6, xble7, xble8, pk_mul, nI_add, nI_1, nI_leI, nI_ltI, nI_eq, n_in, n_cl, z_eq, z_lt, z_le, z_gt, z_ge, z_qe, o_eq, o_lt, o_le, o_gt, o_ge, vp0, vp1, cl0, cl1, n_sub, n_sub1, n_pm1, n_a0, n_0a, ofn, lN0, Nat.reduceLT, Nat.reduceLeDiff, Nat.reduceMul, Nat.reduceSub, Nat.reduceEqDiff, ne_eq, true_implies, false_implies, not_true_eq_false, not_false_eq_true, and_self, and_true, true_and, and_false, false_and, implies_true, if_true, if_false, i00, i10, i01, i11, ob_0, ob_1, tn_2, ln_2, ob_3, tn_4, ln_4, ob_5, tn_6, ln_6, tn_7, ln_7, ob_8, tn_9, ln_9, tn_10, ln_10, tn_11, ln_11, tn_12, ln_12, tn_13, ln_13, tn_14, ln_14, tn_15, ln_15, tn_16, ln_16, tn_17, ln_17, ob_18, tn_19, ln_19, tn_20, ln_20, tn_21, ln_21, tn_22, ln_22, tn_23, ln_23, tn_24, ln_24, tn_25, ln_25, tn_26, ln_26, tn_27, ln_27, ob_28, tn_29, ln_29, tn_30, ln_30, ob_31, tn_32, ln_32, tn_33, ln_33, ob_34, ob_35, tn_36, ln_36, tn_37, ln_37, tn_38, ln_38, ob_39, tn_40, ln_40, tn_41, ln_41, tn_42, ln_42, tn_43, ln_43, tn_44, ln_44, tn_45, ln_45, tn_46, ln_46, tn_47, ln_47, tn_48, ln_48, tn_49, ln_49, tn_50, ln_50, tn_51, ln_51, ob_52, tn_53, ln_53, tn_54, ln_54, tn_55, ln_55, tn_56, ln_56, ob_57, tn_58, ln_58, tn_59, ln_59, tn_60, ln_60, tn_61, ln_61, tn_62, ln_62, tn_63, ln_63, tn_64, ln_64, tn_65, ln_65, ob_66, tn_67, ln_67, tn_68, ln_68, tn_69, ln_69, tn_70, ln_70, tn_71, ln_71, tn_72, ln_72, tn_73, ln_73, ob_74, tn_75, ln_75, tn_76, ln_76, tn_77, ln_77, tn_78, ln_78, tn_79, ln_79, tn_80, ln_80, tn_81, ln_81, tn_82, ln_82, tn_83, ln_83, ob_84, tn_85, ln_85, tn_86, ln_86, tn_87, ln_87, tn_88, ln_88, tn_89, ln_89, tn_90, ln_90, tn_91, ln_91, tn_92, ln_92, tn_93, ln_93, ob_94, tn_95, ln_95, tn_96, ln_96, tn_97, ln_97, tn_98, ln_98, tn_99, ln_99, tn_100, ln_100, tn_101, ln_101, tn_102, ln_102, tn_103, ln_103, ob_104, tn_105, ln_105, tn_106, ln_106, tn_107, ln_107, tn_108, ln_108, tn_109, ln_109, tn_110, ln_110, tn_111, ln_111, tn_112, ln_112, tn_113, ln_113, ob_114, tn_115, ln_115, tn_116, ln_116, tn_117, ln_117, tn_118, ln_118, tn_119, ln_119, tn_120, ln_120, tn_121, ln_121, tn_122, ln_122, tn_123, ln_123, ob_124, tn_125, ln_125, tn_126, ln_126, tn_127, ln_127, tn_128, ln_128, tn_129, ln_129, tn_130, ln_130, tn_131, ln_131, tn_132, ln_132, tn_133, ln_133, ob_134, tn_135, ln_135, tn_136, ln_136, tn_137, ln_137, tn_138, ln_138, tn_139, ln_139, tn_140, ln_140, tn_141, ln_141, tn_142, ln_142, tn_143, ln_143, ob_144, tn_145, ln_145, tn_146, ln_146, tn_147, ln_147, tn_148, ln_148, tn_149, ln_149, tn_150, ln_150, tn_151, ln_151, tn_152, ln_152, tn_153, ln_153, ob_154, tn_155, ln_155, tn_156, ln_156, tn_157, ln_157, tn_158, ln_158, tn_159, ln_159, tn_160, ln_160, tn_161, ln_161, tn_162, ln_162, tn_163, ln_163, ob_164, tn_165, ln_165, tn_166, ln_166, ob_167, tn_168, ln_168, tn_169, ln_169, tn_170, ln_170, tn_171, ln_171, tn_172, ln_172, tn_173, ln_173, tn_174, ln_174, tn_175, ln_175, tn_176, ln_176, ob_177, tn_178, ln_178, tn_179, ln_179, ob_180, tn_181, ln_181, tn_182, ln_182, tn_183, ln_183, tn_184, ln_184, tn_185, ln_185, tn_186, ln_186, tn_187, ln_187, tn_188, ln_188, tn_189, ln_189, tn_190, ln_190, tn_191, ln_191, tn_192, ln_192, tn_193, ln_193, tn_194, ln_194, tn_195, ln_195, tn_196, ln_196, tn_197, ln_197, tn_198, ln_198, tn_199, ln_199, tn_200, ln_200, tn_201, ln_201, tn_202, ln_202, tn_203, ln_203, tn_204, ln_204, tn_205, ln_205, tn_206, ln_206, tn_207, ln_207, tn_208, ln_208, tn_209, ln_209, tn_210, ln_210, tn_211, ln_211, tn_212, ln_212, tn_213, ln_213, tn_214, ln_214, tn_215, ln_215, tn_216, ln_216, tn_217, ln_217, tn_218, ln_218, tn_219, ln_219, tn_220, ln_220, tn_221, ln_221, tn_222, ln_222, tn_223, ln_223, tn_224, ln_224, tn_225, ln_225, tn_226, ln_226, tn_227, ln_227, tn_228, ln_228, tn_229, ln_229, tn_230, ln_230, lx2, lx3, lx4, lx5, lx6, lx7, lx8, lx9, lx10, lx14, lx15, lx16, lx18, lx20, lx24, lx25, lx27, lx32, lx36, lx40, lx41, lx42, lx43, lx45, lx48, lx52, lx54, lx56, lx57, lx58, lx60, lx61, lx62, lx63, lx64, lx66, lx69, lx73, lx80, lx81, lx84, lx85, lx87, lx94, lx96, lx97, lx120, lx128, lx135, lx160, lx162, lx163, lx165, lx200, lx232, lx242, lx243, lx255, lx256, lx320, lx325, lx400, lx405, lx464, lx512, lx600, lx640, lx752, lx900, lx940, lx1000, lx1024, lx1764, lx3360, lx3840, lx5000, lx6400, lx9050, lx9998, lx9999, lx10000, lx25600, lx76800, lx99999, si_ne, si_eq, sl_ne, sl_eq, xl_si, xi_sl, sA_ne, sA_eq, xl_sA, tc, nc, a1, s1]
    have hm := Nat.mod_lt t (show 2 > 0 by omega)
    have fB : fr (fun d k => d = c) A (xsl A c t (xl A c t ||| x &&& (xl A c t ^^^ -1))) := fr_sl fr_rf rfl
    have e56 : ∀ k, k < n → xi (xsl A c t (xl A c t ||| x &&& (xl A c t ^^^ -1))) 56 k = xi A 56 k := fun k _ => fr_i fB (by omega)
    have n64 : ∀ j, j < 64 → (tl (x &&& (xl A c t ^^^ -1)) j = true ↔ tl x j = true ∧ ¬ tl (xl A c t) j = true) := fun j hj => by
      rw [tl_and, tl_xm, decide_eq_true hj, Bool.true_and]
      cases tl x j <;> cases tl (xl A c t) j <;> simp
    refine ⟨ht, ht, ht, xE0 (64 - 0, 0, 0) ⟨c, R, n, t, x, _, 0, n, hc, ht, hx, hP, fr_mono fB (by unfold SEn; omega), Nat.le_refl _, e56, okA_congr h1 e56, by rw [fr_i fB (by omega)]; exact h2, fun m hm' => ?_, fun t' j ht' hj => ?_, fun j hj w => ?_, by have := pc_le (x &&& (xl A c t ^^^ -1)); omega, rfl, rfl, rfl⟩⟩
    · rw [inA_congr e56, h3 m hm']
      constructor
      · exact Or.inl
      · rintro (w | ⟨⟨w1, w2, w3⟩, w4⟩)
        · exact w
        · have m63 : m % 80 % 64 < 64 := Nat.mod_lt _ (by omega)
          have h5 := h4 t (m % 80 % 64) ht m63
          rw [show t / 2 * 80 + t % 2 * 64 + m % 80 % 64 = m by omega] at h5
          refine (h5.mp ?_).2
          cases q : tl (xl A c t) (m % 80 % 64)
          · have := (n64 _ m63).mpr ⟨w3, by rw [q]; decide⟩
            rw [w4] at this; cases this
          · rfl
    · have h5 := h4 t' j ht' hj
      by_cases e : t' = t
      · subst e
        have hx' := hx j hj
        rw [sl_eq, tl_or, Bool.or_eq_true, n64 j hj, h5]
        unfold enV
        by_cases q : t' % 2 * 64 + j < 80
        · obtain ⟨d1, d2, d3, d4⟩ := row_d (a := t' / 2) hm hj q
          rw [d1, d3, d4]
          constructor
          · rintro (w | ⟨w1, w2⟩)
            · exact ⟨w.1, Or.inl w.2⟩
            · exact ⟨q, Or.inr ⟨rfl, rfl, w1⟩⟩
          · rintro ⟨w, w1 | ⟨-, -, w1⟩⟩
            · exact Or.inl ⟨w, w1⟩
            · by_cases q2 : R (t' / 2 * 80 + t' % 2 * 64 + j)
              · exact Or.inl ⟨w, q2⟩
              · exact Or.inr ⟨w1, fun w2 => q2 w2.2⟩
        · constructor
          · rintro (w | ⟨w1, w2⟩)
            · exact absurd w.1 q
            · exact absurd (hx' w1) q
          · rintro ⟨w, -⟩; exact absurd w q
      · rw [sl_ne (by omega), h5]
        constructor
        · rintro ⟨a, b⟩; exact ⟨a, Or.inl b⟩
        · rintro ⟨a, b | ⟨b1, b2, -⟩⟩
          · exact ⟨a, b⟩
          · omega
    · have w1 := (n64 j hj).mp w
      refine ⟨w1.1, fun w2 => w1.2 ((h4 t j ht hj).mpr ⟨hx j hj w1.1, w2⟩)⟩
  · rintro q c y x A P - μ L st B ⟨c, R, n, t, x, rest, i, n', hc, ht, hx, hP, hF, hn, hpre, hok, h9, hin, hbit, hrest, hi, rfl, rfl, rfl⟩
    have hnl := okA_le hok
    simp (disch := omega) only [k_X10_enter_0, k_X10_enter_37, k_X10_enter_111, w_J, x_aload, x_cs1, x_dup, x_dup2, x_iadd, x_iand, x_icmp_ge, x_if_eq, x_iinc, x_iload, x_imul, x_ishr, x_istore, x_lald, x_land, x_last, x_lcmp, x_lload, x_lneg, x_lor, x_lstore, x_lsub, x_lxor, x_push, x_vret, y_alen, y_getF, y_getI, y_iast, y_putI, xFT, xbool0, xbool1, Nat.reduceAdd, Nat.zero_add, xgl_0, xgl_s, xgl_n, xst_0, xst_1n, xst_1i, xst_1r, xst_1l, xst_s, set_0, set_s, true_and, and_true, xres, xcat_nil, xcat_i, xcat_r, xcat_l, Nat.add_zero, xble0, xble1, xble2, xble3, xble4, xble5, xble6, xble7, xble8, pk_mul, nI_add, nI_1, nI_leI, nI_ltI, nI_eq, n_in, n_cl, z_eq, z_lt, z_le, z_gt, z_ge, z_qe, o_eq, o_lt, o_le, o_gt, o_ge, vp0, vp1, cl0, cl1, n_sub, n_sub1, n_pm1, n_a0, n_0a, ofn, lN0, Nat.reduceLT, Nat.reduceLeDiff, Nat.reduceMul, Nat.reduceSub, Nat.reduceEqDiff, ne_eq, true_implies, false_implies, not_true_eq_false, not_false_eq_true, and_self, and_true, true_and, and_false, false_and, implies_true, if_true, if_false, i00, i10, i01, i11, ob_0, ob_1, tn_2, ln_2, ob_3, tn_4, ln_4, ob_5, tn_6, ln_6, tn_7, ln_7, ob_8, tn_9, ln_9, tn_10, ln_10, tn_11, ln_11, tn_12, ln_12, tn_13, ln_13, tn_14, ln_14, tn_15, ln_15, tn_16, ln_16, tn_17, ln_17, ob_18, tn_19, ln_19, tn_20, ln_20, tn_21, ln_21, tn_22, ln_22, tn_23, ln_23, tn_24, ln_24, tn_25, ln_25, tn_26, ln_26, tn_27, ln_27, ob_28, tn_29, ln_29, tn_30, ln_30, ob_31, tn_32, ln_32, tn_33, ln_33, ob_34, ob_35, tn_36, ln_36, tn_37, ln_37, tn_38, ln_38, ob_39, tn_40, ln_40, tn_41, ln_41, tn_42, ln_42, tn_43, ln_43, tn_44, ln_44, tn_45, ln_45, tn_46, ln_46, tn_47, ln_47, tn_48, ln_48, tn_49, ln_49, tn_50, ln_50, tn_51, ln_51, ob_52, tn_53, ln_53, tn_54, ln_54, tn_55, ln_55, tn_56, ln_56, ob_57, tn_58, ln_58, tn_59, ln_59, tn_60, ln_60, tn_61, ln_61, tn_62, ln_62, tn_63, ln_63, tn_64, ln_64, tn_65, ln_65, ob_66, tn_67, ln_67, tn_68, ln_68, tn_69, ln_69, tn_70, ln_70, tn_71, ln_71, tn_72, ln_72, tn_73, ln_73, ob_74, tn_75, ln_75, tn_76, ln_76, tn_77, ln_77, tn_78, ln_78, tn_79, ln_79, tn_80, ln_80, tn_81, ln_81, tn_82, ln_82, tn_83, ln_83, ob_84, tn_85, ln_85, tn_86, ln_86, tn_87, ln_87, tn_88, ln_88, tn_89, ln_89, tn_90, ln_90, tn_91, ln_91, tn_92, ln_92, tn_93, ln_93, ob_94, tn_95, ln_95, tn_96, ln_96, tn_97, ln_97, tn_98, ln_98, tn_99, ln_99, tn_100, ln_100, tn_101, ln_101, tn_102, ln_102, tn_103, ln_103, ob_104, tn_105, ln_105, tn_106, ln_106, tn_107, ln_107, tn_108, ln_108, tn_109, ln_109, tn_110, ln_110, tn_111, ln_111, tn_112, ln_112, tn_113, ln_113, ob_114, tn_115, ln_115, tn_116, ln_116, tn_117, ln_117, tn_118, ln_118, tn_119, ln_119, tn_120, ln_120, tn_121, ln_121, tn_122, ln_122, tn_123, ln_123, ob_124, tn_125, ln_125, tn_126, ln_126, tn_127, ln_127, tn_128, ln_128, tn_129, ln_129, tn_130, ln_130, tn_131, ln_131, tn_132, ln_132, tn_133, ln_133, ob_134, tn_135, ln_135, tn_136, ln_136, tn_137, ln_137, tn_138, ln_138, tn_139, ln_139, tn_140, ln_140, tn_141, ln_141, tn_142, ln_142, tn_143, ln_143, ob_144, tn_145, ln_145, tn_146, ln_146, tn_147, ln_147, tn_148, ln_148, tn_149, ln_149, tn_150, ln_150, tn_151, ln_151, tn_152, ln_152, tn_153, ln_153, ob_154, tn_155, ln_155, tn_156, ln_156, tn_157, ln_157, tn_158, ln_158, tn_159, ln_159, tn_160, ln_160, tn_161, ln_161, tn_162, ln_162, tn_163, ln_163, ob_164, tn_165, ln_165, tn_166, ln_166, ob_167, tn_168, ln_168, tn_169, ln_169, tn_170, ln_170, tn_171, ln_171, tn_172, ln_172, tn_173, ln_173, tn_174, ln_174, tn_175, ln_175, tn_176, ln_176, ob_177, tn_178, ln_178, tn_179, ln_179, ob_180, tn_181, ln_181, tn_182, ln_182, tn_183, ln_183, tn_184, ln_184, tn_185, ln_185, tn_186, ln_186, tn_187, ln_187, tn_188, ln_188, tn_189, ln_189, tn_190, ln_190, tn_191, ln_191, tn_192, ln_192, tn_193, ln_193, tn_194, ln_194, tn_195, ln_195, tn_196, ln_196, tn_197, ln_197, tn_198, ln_198, tn_199, ln_199, tn_200, ln_200, tn_201, ln_201, tn_202, ln_202, tn_203, ln_203, tn_204, ln_204, tn_205, ln_205, tn_206, ln_206, tn_207, ln_207, tn_208, ln_208, tn_209, ln_209, tn_210, ln_210, tn_211, ln_211, tn_212, ln_212, tn_213, ln_213, tn_214, ln_214, tn_215, ln_215, tn_216, ln_216, tn_217, ln_217, tn_218, ln_218, tn_219, ln_219, tn_220, ln_220, tn_221, ln_221, tn_222, ln_222, tn_223, ln_223, tn_224, ln_224, tn_225, ln_225, tn_226, ln_226, tn_227, ln_227, tn_228, ln_228, tn_229, ln_229, tn_230, ln_230, lx2, lx3, lx4, lx5, lx6, lx7, lx8, lx9, lx10, lx14, lx15, lx16, lx18, lx20, lx24, lx25, lx27, lx32, lx36, lx40, lx41, lx42, lx43, lx45, lx48, lx52, lx54, lx56, lx57, lx58, lx60, lx61, lx62, lx63, lx64, lx66, lx69, lx73, lx80, lx81, lx84, lx85, lx87, lx94, lx96, lx97, lx120, lx128, lx135, lx160, lx162, lx163, lx165, lx200, lx232, lx242, lx243, lx255, lx256, lx320, lx325, lx400, lx405, lx464, lx512, lx600, lx640, lx752, lx900, lx940, lx1000, lx1024, lx1764, lx3360, lx3840, lx5000, lx6400, lx9050, lx9998, lx9999, lx10000, lx25600, lx76800, lx99999, si_ne, si_eq, sl_ne, sl_eq, xl_si, xi_sl, sA_ne, sA_eq, xl_sA, h9, lcmp0]
    have hm := Nat.mod_lt t (show 2 > 0 by omega)
    have out : rest = 0 → P none B := fun z => by
      refine hP B n' hF hn hpre ⟨hok, h9, fun m hm' => ?_, hbit⟩
      rw [hin m hm', z, tl_0]
      constructor
      · rintro (w | w)
        · exact Or.inl w
        · exact Or.inr w.1
      · rintro (w | w)
        · exact Or.inl w
        · exact Or.inr ⟨w, rfl⟩
    refine ⟨fun z => out (pc_z (by omega)), fun z => ⟨fun z2 => out z2, fun z2 => ?_⟩⟩
    obtain ⟨l, hl⟩ := lowb_of (x := rest) z2
    obtain ⟨l1, l2, l3⟩ := hl
    obtain ⟨r1, r2⟩ := hrest l l1 l2
    have hxl := hx l l1 r1
    have hb : t / 2 * 80 + t % 2 * 64 + l < 25600 := by omega
    obtain ⟨e1, -, e3, e2⟩ := row_d (a := t / 2) hm l1 hxl
    have hnin : ¬ inA B 56 n' (t / 2 * 80 + t % 2 * 64 + l) := fun w => by
      rcases (hin _ hb).mp w with w | ⟨-, w⟩
      · exact r2 w
      · rw [e2, l2] at w; cases w
    have hlt := okA_lt hok hnin hb
    refine ⟨fun w => absurd w (by omega), fun _ => bitCount_A' (pc_below ⟨l1, l2, l3⟩) ?_⟩
    have hp := pc_rest ⟨l1, l2, l3⟩
    simp (disch := omega) only [k_X10_enter_0, k_X10_enter_37, k_X10_enter_111, w_J, x_aload, x_cs1, x_dup, x_dup2, x_iadd, x_iand, x_icmp_ge, x_if_eq, x_iinc, x_iload, x_imul, x_ishr, x_istore, x_lald, x_land, x_last, x_lcmp, x_lload, x_lneg, x_lor, x_lstore, x_lsub, x_lxor, x_push, x_vret, y_alen, y_getF, y_getI, y_iast, y_putI, xFT, xbool0, xbool1, Nat.reduceAdd, Nat.zero_add, xgl_0, xgl_s, xgl_n, xst_0, xst_1n, xst_1i, xst_1r, xst_1l, xst_s, set_0, set_s, true_and, and_true, xres, xcat_nil, xcat_i, xcat_r, xcat_l, Nat.add_zero, xble0, xble1, xble2, xble3, xble4, xble5, xble6, xble7, xble8, pk_mul, nI_add, nI_1, nI_leI, nI_ltI, nI_eq, n_in, n_cl, z_eq, z_lt, z_le, z_gt, z_ge, z_qe, o_eq, o_lt, o_le, o_gt, o_ge, vp0, vp1, cl0, cl1, n_sub, n_sub1, n_pm1, n_a0, n_0a, ofn, lN0, Nat.reduceLT, Nat.reduceLeDiff, Nat.reduceMul, Nat.reduceSub, Nat.reduceEqDiff, ne_eq, true_implies, false_implies, not_true_eq_false, not_false_eq_true, and_self, and_true, true_and, and_false, false_and, implies_true, if_true, if_false, i00, i10, i01, i11, ob_0, ob_1, tn_2, ln_2, ob_3, tn_4, ln_4, ob_5, tn_6, ln_6, tn_7, ln_7, ob_8, tn_9, ln_9, tn_10, ln_10, tn_11, ln_11, tn_12, ln_12, tn_13, ln_13, tn_14, ln_14, tn_15, ln_15, tn_16, ln_16, tn_17, ln_17, ob_18, tn_19, ln_19, tn_20, ln_20, tn_21, ln_21, tn_22, ln_22, tn_23, ln_23, tn_24, ln_24, tn_25, ln_25, tn_26, ln_26, tn_27, ln_27, ob_28, tn_29, ln_29, tn_30, ln_30, ob_31, tn_32, ln_32, tn_33, ln_33, ob_34, ob_35, tn_36, ln_36, tn_37, ln_37, tn_38, ln_38, ob_39, tn_40, ln_40, tn_41, ln_41, tn_42, ln_42, tn_43, ln_43, tn_44, ln_44, tn_45, ln_45, tn_46, ln_46, tn_47, ln_47, tn_48, ln_48, tn_49, ln_49, tn_50, ln_50, tn_51, ln_51, ob_52, tn_53, ln_53, tn_54, ln_54, tn_55, ln_55, tn_56, ln_56, ob_57, tn_58, ln_58, tn_59, ln_59, tn_60, ln_60, tn_61, ln_61, tn_62, ln_62, tn_63, ln_63, tn_64, ln_64, tn_65, ln_65, ob_66, tn_67, ln_67, tn_68, ln_68, tn_69, ln_69, tn_70, ln_70, tn_71, ln_71, tn_72, ln_72, tn_73, ln_73, ob_74, tn_75, ln_75, tn_76, ln_76, tn_77, ln_77, tn_78, ln_78, tn_79, ln_79, tn_80, ln_80, tn_81, ln_81, tn_82, ln_82, tn_83, ln_83, ob_84, tn_85, ln_85, tn_86, ln_86, tn_87, ln_87, tn_88, ln_88, tn_89, ln_89, tn_90, ln_90, tn_91, ln_91, tn_92, ln_92, tn_93, ln_93, ob_94, tn_95, ln_95, tn_96, ln_96, tn_97, ln_97, tn_98, ln_98, tn_99, ln_99, tn_100, ln_100, tn_101, ln_101, tn_102, ln_102, tn_103, ln_103, ob_104, tn_105, ln_105, tn_106, ln_106, tn_107, ln_107, tn_108, ln_108, tn_109, ln_109, tn_110, ln_110, tn_111, ln_111, tn_112, ln_112, tn_113, ln_113, ob_114, tn_115, ln_115, tn_116, ln_116, tn_117, ln_117, tn_118, ln_118, tn_119, ln_119, tn_120, ln_120, tn_121, ln_121, tn_122, ln_122, tn_123, ln_123, ob_124, tn_125, ln_125, tn_126, ln_126, tn_127, ln_127, tn_128, ln_128, tn_129, ln_129, tn_130, ln_130, tn_131, ln_131, tn_132, ln_132, tn_133, ln_133, ob_134, tn_135, ln_135, tn_136, ln_136, tn_137, ln_137, tn_138, ln_138, tn_139, ln_139, tn_140, ln_140, tn_141, ln_141, tn_142, ln_142, tn_143, ln_143, ob_144, tn_145, ln_145, tn_146, ln_146, tn_147, ln_147, tn_148, ln_148, tn_149, ln_149, tn_150, ln_150, tn_151, ln_151, tn_152, ln_152, tn_153, ln_153, ob_154, tn_155, ln_155, tn_156, ln_156, tn_157, ln_157, tn_158, ln_158, tn_159, ln_159, tn_160, ln_160, tn_161, ln_161, tn_162, ln_162, tn_163, ln_163, ob_164, tn_165, ln_165, tn_166, ln_166, ob_167, tn_168, ln_168, tn_169, ln_169, tn_170, ln_170, tn_171, ln_171, tn_172, ln_172, tn_173, ln_173, tn_174, ln_174, tn_175, ln_175, tn_176, ln_176, ob_177, tn_178, ln_178, tn_179, ln_179, ob_180, tn_181, ln_181, tn_182, ln_182, tn_183, ln_183, tn_184, ln_184, tn_185, ln_185, tn_186, ln_186, tn_187, ln_187, tn_188, ln_188, tn_189, ln_189, tn_190, ln_190, tn_191, ln_191, tn_192, ln_192, tn_193, ln_193, tn_194, ln_194, tn_195, ln_195, tn_196, ln_196, tn_197, ln_197, tn_198, ln_198, tn_199, ln_199, tn_200, ln_200, tn_201, ln_201, tn_202, ln_202, tn_203, ln_203, tn_204, ln_204, tn_205, ln_205, tn_206, ln_206, tn_207, ln_207, tn_208, ln_208, tn_209, ln_209, tn_210, ln_210, tn_211, ln_211, tn_212, ln_212, tn_213, ln_213, tn_214, ln_214, tn_215, ln_215, tn_216, ln_216, tn_217, ln_217, tn_218, ln_218, tn_219, ln_219, tn_220, ln_220, tn_221, ln_221, tn_222, ln_222, tn_223, ln_223, tn_224, ln_224, tn_225, ln_225, tn_226, ln_226, tn_227, ln_227, tn_228, ln_228, tn_229, ln_229, tn_230, ln_230, lx2, lx3, lx4, lx5, lx6, lx7, lx8, lx9, lx10, lx14, lx15, lx16, lx18, lx20, lx24, lx25, lx27, lx32, lx36, lx40, lx41, lx42, lx43, lx45, lx48, lx52, lx54, lx56, lx57, lx58, lx60, lx61, lx62, lx63, lx64, lx66, lx69, lx73, lx80, lx81, lx84, lx85, lx87, lx94, lx96, lx97, lx120, lx128, lx135, lx160, lx162, lx163, lx165, lx200, lx232, lx242, lx243, lx255, lx256, lx320, lx325, lx400, lx405, lx464, lx512, lx600, lx640, lx752, lx900, lx940, lx1000, lx1024, lx1764, lx3360, lx3840, lx5000, lx6400, lx9050, lx9998, lx9999, lx10000, lx25600, lx76800, lx99999, si_ne, si_eq, sl_ne, sl_eq, xl_si, xi_sl, sA_ne, sA_eq, xl_sA, h9]
    have fC : fr (fun d k => d = 56 ∨ (d = 52 ∧ k = 9)) B (xsi (xsi B 56 n' (nI (t / 2 * 80 + t % 2 * 64 + l))) 52 9 (nI (n' + 1))) := fr_si (fr_si fr_rf (by omega)) (by omega)
    have e56 : ∀ k, k < n' → xi (xsi (xsi B 56 n' (nI (t / 2 * 80 + t % 2 * 64 + l))) 52 9 (nI (n' + 1))) 56 k = xi B 56 k := fun k hk => by rw [si_ne (by omega), si_ne (by omega)]
    have e56n : xi (xsi (xsi B 56 n' (nI (t / 2 * 80 + t % 2 * 64 + l))) 52 9 (nI (n' + 1))) 56 n' = nI (t / 2 * 80 + t % 2 * 64 + l) := by rw [si_ne (by omega), si_eq]
    refine ⟨hlt, xB1 (b := 64 - (i + 1)) (by omega) ⟨c, R, n, t, x, rest &&& (rest - 1), i + 1, n' + 1, hc, ht, hx, hP, fr_tr hF (fr_mono fC (by unfold SEn; omega)), by omega, fun k hk => (e56 k (by omega)).trans (hpre k hk), okA_push hok hnin hb e56 e56n, si_eq, fun m hm' => ?_, fun t' j ht' hj => ?_, fun j hj w => ?_, by omega, rfl, rfl, rfl⟩⟩
    · have m63 : m % 80 % 64 < 64 := Nat.mod_lt _ (by omega)
      rw [inA_push hb hm' e56 e56n, hin m hm', tl_rest ⟨l1, l2, l3⟩ m63]
      constructor
      · rintro ((w | ⟨w1, w2⟩) | w)
        · exact Or.inl w
        · exact Or.inr ⟨w1, by rw [w2]; rfl⟩
        · refine Or.inr ⟨⟨by omega, by omega, ?_⟩, ?_⟩
          · rw [w, e2]; exact r1
          · rw [w, e2, decide_eq_false (fun h => h rfl), Bool.and_false]
      · rintro (w | ⟨⟨w1, w2, w3⟩, w4⟩)
        · exact Or.inl (Or.inl w)
        · by_cases q : m % 80 % 64 = l
          · exact Or.inr (by omega)
          · rw [decide_eq_true q, Bool.and_true] at w4
            exact Or.inl (Or.inr ⟨⟨w1, w2, w3⟩, w4⟩)
    · rw [fr_l fC (by omega)]; exact hbit t' j ht' hj
    · rw [tl_rest ⟨l1, l2, l3⟩ hj, Bool.and_eq_true] at w
      exact hrest j hj w.1

