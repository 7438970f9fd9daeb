/-! ===== the reference's treesOf ===== -/
theorem d_X12_treesOf_0 : decode cX12_treesOf 0 = .ok (.iload_n 2, 1) := by decide +kernel
theorem d_X12_treesOf_1 : decode cX12_treesOf 1 = .ok (.iload_n 3, 1) := by decide +kernel
theorem d_X12_treesOf_2 : decode cX12_treesOf 2 = .ok (.if_icmp .ne 15, 3) := by decide +kernel
theorem d_X12_treesOf_5 : decode cX12_treesOf 5 = .ok (.aload_n 0, 1) := by decide +kernel
theorem d_X12_treesOf_6 : decode cX12_treesOf 6 = .ok (.getfield 118, 3) := by decide +kernel
theorem d_X12_treesOf_9 : decode cX12_treesOf 9 = .ok (.iconst 5, 1) := by decide +kernel
theorem d_X12_treesOf_10 : decode cX12_treesOf 10 = .ok (.iload 4, 2) := by decide +kernel
theorem d_X12_treesOf_12 : decode cX12_treesOf 12 = .ok (.imul, 1) := by decide +kernel
theorem d_X12_treesOf_13 : decode cX12_treesOf 13 = .ok (.iload_n 1, 1) := by decide +kernel
theorem d_X12_treesOf_14 : decode cX12_treesOf 14 = .ok (.iadd, 1) := by decide +kernel
theorem d_X12_treesOf_15 : decode cX12_treesOf 15 = .ok (.iaload, 1) := by decide +kernel
theorem d_X12_treesOf_16 : decode cX12_treesOf 16 = .ok (.ireturn, 1) := by decide +kernel
theorem d_X12_treesOf_17 : decode cX12_treesOf 17 = .ok (.lconst 0, 1) := by decide +kernel
theorem d_X12_treesOf_18 : decode cX12_treesOf 18 = .ok (.lstore 5, 2) := by decide +kernel
theorem d_X12_treesOf_20 : decode cX12_treesOf 20 = .ok (.iconst 0, 1) := by decide +kernel
theorem d_X12_treesOf_21 : decode cX12_treesOf 21 = .ok (.istore 7, 2) := by decide +kernel
theorem d_X12_treesOf_23 : decode cX12_treesOf 23 = .ok (.iload 7, 2) := by decide +kernel
theorem d_X12_treesOf_25 : decode cX12_treesOf 25 = .ok (.iconst 5, 1) := by decide +kernel
theorem d_X12_treesOf_26 : decode cX12_treesOf 26 = .ok (.if_icmp .ge 55, 3) := by decide +kernel
theorem d_X12_treesOf_29 : decode cX12_treesOf 29 = .ok (.lload 5, 2) := by decide +kernel
theorem d_X12_treesOf_31 : decode cX12_treesOf 31 = .ok (.aload_n 0, 1) := by decide +kernel
theorem d_X12_treesOf_32 : decode cX12_treesOf 32 = .ok (.getfield 121, 3) := by decide +kernel
theorem d_X12_treesOf_35 : decode cX12_treesOf 35 = .ok (.bipush 25, 2) := by decide +kernel
theorem d_X12_treesOf_37 : decode cX12_treesOf 37 = .ok (.iload 4, 2) := by decide +kernel
theorem d_X12_treesOf_39 : decode cX12_treesOf 39 = .ok (.imul, 1) := by decide +kernel
theorem d_X12_treesOf_40 : decode cX12_treesOf 40 = .ok (.iconst 5, 1) := by decide +kernel
theorem d_X12_treesOf_41 : decode cX12_treesOf 41 = .ok (.iload_n 1, 1) := by decide +kernel
theorem d_X12_treesOf_42 : decode cX12_treesOf 42 = .ok (.imul, 1) := by decide +kernel
theorem d_X12_treesOf_43 : decode cX12_treesOf 43 = .ok (.iadd, 1) := by decide +kernel
theorem d_X12_treesOf_44 : decode cX12_treesOf 44 = .ok (.iload 7, 2) := by decide +kernel
theorem d_X12_treesOf_46 : decode cX12_treesOf 46 = .ok (.iadd, 1) := by decide +kernel
theorem d_X12_treesOf_47 : decode cX12_treesOf 47 = .ok (.iaload, 1) := by decide +kernel
theorem d_X12_treesOf_48 : decode cX12_treesOf 48 = .ok (.i2l, 1) := by decide +kernel
theorem d_X12_treesOf_49 : decode cX12_treesOf 49 = .ok (.aload_n 0, 1) := by decide +kernel
theorem d_X12_treesOf_50 : decode cX12_treesOf 50 = .ok (.getfield 127, 3) := by decide +kernel
theorem d_X12_treesOf_53 : decode cX12_treesOf 53 = .ok (.bipush 81, 2) := by decide +kernel
theorem d_X12_treesOf_55 : decode cX12_treesOf 55 = .ok (.iload 7, 2) := by decide +kernel
theorem d_X12_treesOf_57 : decode cX12_treesOf 57 = .ok (.imul, 1) := by decide +kernel
theorem d_X12_treesOf_58 : decode cX12_treesOf 58 = .ok (.bipush 9, 2) := by decide +kernel
theorem d_X12_treesOf_60 : decode cX12_treesOf 60 = .ok (.iload_n 2, 1) := by decide +kernel
theorem d_X12_treesOf_61 : decode cX12_treesOf 61 = .ok (.imul, 1) := by decide +kernel
theorem d_X12_treesOf_62 : decode cX12_treesOf 62 = .ok (.iadd, 1) := by decide +kernel
theorem d_X12_treesOf_63 : decode cX12_treesOf 63 = .ok (.iload_n 3, 1) := by decide +kernel
theorem d_X12_treesOf_64 : decode cX12_treesOf 64 = .ok (.iadd, 1) := by decide +kernel
theorem d_X12_treesOf_65 : decode cX12_treesOf 65 = .ok (.iaload, 1) := by decide +kernel
theorem d_X12_treesOf_66 : decode cX12_treesOf 66 = .ok (.i2l, 1) := by decide +kernel
theorem d_X12_treesOf_67 : decode cX12_treesOf 67 = .ok (.lmul, 1) := by decide +kernel
theorem d_X12_treesOf_68 : decode cX12_treesOf 68 = .ok (.ladd, 1) := by decide +kernel
theorem d_X12_treesOf_69 : decode cX12_treesOf 69 = .ok (.invokestatic 511, 3) := by decide +kernel
theorem d_X12_treesOf_72 : decode cX12_treesOf 72 = .ok (.i2l, 1) := by decide +kernel
theorem d_X12_treesOf_73 : decode cX12_treesOf 73 = .ok (.lstore 5, 2) := by decide +kernel
theorem d_X12_treesOf_75 : decode cX12_treesOf 75 = .ok (.iinc 7 1, 3) := by decide +kernel
theorem d_X12_treesOf_78 : decode cX12_treesOf 78 = .ok (.goto (-55), 3) := by decide +kernel
theorem d_X12_treesOf_81 : decode cX12_treesOf 81 = .ok (.lload 5, 2) := by decide +kernel
theorem d_X12_treesOf_83 : decode cX12_treesOf 83 = .ok (.l2i, 1) := by decide +kernel
theorem d_X12_treesOf_84 : decode cX12_treesOf 84 = .ok (.ireturn, 1) := by decide +kernel
def k_X12_treesOf_0 (P : xP) (C23 : xK) : xK := x_iload 2 (x_iload 3 (x_icmp_ne (x_push (.long 0) (x_lstore 5 (x_push (.int 0) (x_istore 7 (C23))))) (x_aload 0 (y_getF 180 210 (x_push (.int 5) (x_iload 4 (x_imul (x_iload 1 (x_iadd (y_iald 210 1215 (x_iret P)))))))))))
set_option maxRecDepth 20000 in
theorem t_X12_treesOf_0 {p : Program} {l : Launch} {e : Env} {s : State} {m : MethodId} {args : Array Value} {below : List Frame} {meth : Method} {c : Code} {g : xG} (X : xX p s m args c meth cX12_treesOf RX12 8 g) (hr : meth.sig.returnType = (some .int)) {P : xP} {C23 : xK} (h23 : xAt p l e { frames := 1, cells := 0, slots := 0, locals := 21 } s m args below meth c g 8 xFT xN 0 0 (MQ below (xQc g xFT xN P) args s 0 0 (xFr g)) C23 23) : xAt p l e { frames := 1, cells := 0, slots := 0, locals := 21 } s m args below meth c g 8 xFT xN 0 0 (MQ below (xQc g xFT xN P) args s 0 0 (xFr g)) (k_X12_treesOf_0 P C23) 0 := by
  unfold k_X12_treesOf_0
  refine r_iload_n (pc := 0) X d_X12_treesOf_0 fn2 ?_
  refine r_iload_n (pc := 1) X d_X12_treesOf_1 fn3 ?_
  refine r_icmp_ne (pc := 2) (tgt := 17) X d_X12_treesOf_2 (by decide +kernel) ?_ ?_
  · refine r_lconst (pc := 17) X d_X12_treesOf_17 (by decide +kernel) ?_
    refine r_lstore (pc := 18) X d_X12_treesOf_18 (by decide +kernel) ?_
    refine r_iconst (pc := 20) X d_X12_treesOf_20 (by decide +kernel) ?_
    refine r_istore (pc := 21) X d_X12_treesOf_21 (by decide +kernel) ?_
    exact h23
  · refine r_aload_n (pc := 5) X d_X12_treesOf_5 fn0 ?_
    refine s_getF (pc := 6) (ci := 12) (k := 58) X xok12 (by decide +kernel) ob_180 trivial ly_180_58 (by decide +kernel) fl_RX12_118 d_X12_treesOf_6 ?_
    refine r_iconst (pc := 9) X d_X12_treesOf_9 (by decide +kernel) ?_
    refine r_iload (pc := 10) X d_X12_treesOf_10 ?_
    refine r_imul (pc := 12) X d_X12_treesOf_12 ?_
    refine r_iload_n (pc := 13) X d_X12_treesOf_13 fn1 ?_
    refine r_iadd (pc := 14) X d_X12_treesOf_14 ?_
    refine s_iald (pc := 15) X tn_210 ln_210 d_X12_treesOf_15 ?_
    exact r_iret (pc := 16) X hr d_X12_treesOf_16
def k_X12_treesOf_23 (P : xP) (C23 : xK) : xK := x_iload 7 (x_push (.int 5) (x_icmp_ge (x_lload 5 (x_l2i (x_iret P))) (x_lload 5 (x_aload 0 (y_getF 180 211 (x_push (.int 25) (x_iload 4 (x_imul (x_push (.int 5) (x_iload 1 (x_imul (x_iadd (x_iload 7 (x_iadd (y_iald 211 6075 (x_i2l (x_aload 0 (y_getF 180 213 (x_push (.int 81) (x_iload 7 (x_imul (x_push (.int 9) (x_iload 2 (x_imul (x_iadd (x_iload 3 (x_iadd (y_iald 213 405 (x_i2l (x_lmul (x_ladd (x_cs1 (w_J f_X12_less) (x_i2l (x_lstore 5 (x_iinc 7 1 (C23))))))))))))))))))))))))))))))))))))
set_option maxRecDepth 20000 in
theorem t_X12_treesOf_23 {p : Program} {l : Launch} {e : Env} {s : State} {m : MethodId} {args : Array Value} {below : List Frame} {meth : Method} {c : Code} {g : xG} (X : xX p s m args c meth cX12_treesOf RX12 8 g) (hr : meth.sig.returnType = (some .int)) {P : xP} {C23 : xK} (h23 : xAt p l e { frames := 1, cells := 0, slots := 0, locals := 21 } s m args below meth c g 8 xFT xN 0 0 (MQ below (xQc g xFT xN P) args s 0 0 (xFr g)) C23 23) : xAt p l e { frames := 1, cells := 0, slots := 0, locals := 21 } s m args below meth c g 8 xFT xN 0 0 (MQ below (xQc g xFT xN P) args s 0 0 (xFr g)) (k_X12_treesOf_23 P C23) 23 := by
  unfold k_X12_treesOf_23
  refine r_iload (pc := 23) X d_X12_treesOf_23 ?_
  refine r_iconst (pc := 25) X d_X12_treesOf_25 (by decide +kernel) ?_
  refine r_icmp_ge (pc := 26) (tgt := 81) X d_X12_treesOf_26 (by decide +kernel) ?_ ?_
  · refine r_lload (pc := 81) X d_X12_treesOf_81 ?_
    refine r_l2i (pc := 83) X d_X12_treesOf_83 ?_
    exact r_iret (pc := 84) X hr d_X12_treesOf_84
  · refine r_lload (pc := 29) X d_X12_treesOf_29 ?_
    refine r_aload_n (pc := 31) X d_X12_treesOf_31 fn0 ?_
    refine s_getF (pc := 32) (ci := 12) (k := 59) X xok12 (by decide +kernel) ob_180 trivial ly_180_59 (by decide +kernel) fl_RX12_121 d_X12_treesOf_32 ?_
    refine r_bipush (pc := 35) X d_X12_treesOf_35 (by decide +kernel) ?_
    refine r_iload (pc := 37) X d_X12_treesOf_37 ?_
    refine r_imul (pc := 39) X d_X12_treesOf_39 ?_
    refine r_iconst (pc := 40) X d_X12_treesOf_40 (by decide +kernel) ?_
    refine r_iload_n (pc := 41) X d_X12_treesOf_41 fn1 ?_
    refine r_imul (pc := 42) X d_X12_treesOf_42 ?_
    refine r_iadd (pc := 43) X d_X12_treesOf_43 ?_
    refine r_iload (pc := 44) X d_X12_treesOf_44 ?_
    refine r_iadd (pc := 46) X d_X12_treesOf_46 ?_
    refine s_iald (pc := 47) X tn_211 ln_211 d_X12_treesOf_47 ?_
    refine r_i2l (pc := 48) X d_X12_treesOf_48 ?_
    refine r_aload_n (pc := 49) X d_X12_treesOf_49 fn0 ?_
    refine s_getF (pc := 50) (ci := 12) (k := 61) X xok12 (by decide +kernel) ob_180 trivial ly_180_61 (by decide +kernel) fl_RX12_127 d_X12_treesOf_50 ?_
    refine r_bipush (pc := 53) X d_X12_treesOf_53 (by decide +kernel) ?_
    refine r_iload (pc := 55) X d_X12_treesOf_55 ?_
    refine r_imul (pc := 57) X d_X12_treesOf_57 ?_
    refine r_bipush (pc := 58) X d_X12_treesOf_58 (by decide +kernel) ?_
    refine r_iload_n (pc := 60) X d_X12_treesOf_60 fn2 ?_
    refine r_imul (pc := 61) X d_X12_treesOf_61 ?_
    refine r_iadd (pc := 62) X d_X12_treesOf_62 ?_
    refine r_iload_n (pc := 63) X d_X12_treesOf_63 fn3 ?_
    refine r_iadd (pc := 64) X d_X12_treesOf_64 ?_
    refine s_iald (pc := 65) X tn_213 ln_213 d_X12_treesOf_65 ?_
    refine r_i2l (pc := 66) X d_X12_treesOf_66 ?_
    refine r_lmul (pc := 67) X d_X12_treesOf_67 ?_
    refine r_ladd (pc := 68) X d_X12_treesOf_68 ?_
    refine r_cs1 (pc := 69) X (con_X12_less l) sf_X12_less ml_RX12_511 (by decide +kernel) (by decide +kernel) d_X12_treesOf_69 ?_
    refine r_i2l (pc := 72) X d_X12_treesOf_72 ?_
    refine r_lstore (pc := 73) X d_X12_treesOf_73 (by decide +kernel) ?_
    refine r_iinc (pc := 75) X d_X12_treesOf_75 (by decide +kernel) (by decide +kernel) ?_
    refine r_goto (pc := 78) (tgt := 23) X d_X12_treesOf_78 (by decide +kernel) ?_
    exact h23
set_option maxRecDepth 20000 in
theorem m_X12_treesOf {l : Launch} {f : Nat → Int32 → Int32 → Int32 → Int32 → xH → xP → Prop}  {I23 : Nat → Int32 → Int32 → Int32 → Int32 → xH → xP → xM → xK}
    (v0 : ∀ (a0 : Nat) (a1 : Int32) (a2 : Int32) (a3 : Int32) (a4 : Int32) (A : xH) (P : xP), f a0 a1 a2 a3 a4 A P → k_X12_treesOf_0 P (xE (I23 a0 a1 a2 a3 a4 A P)) [some (.ref a0), some (.int a1), some (.int a2), some (.int a3), some (.int a4), none, none, none] [] A)
    (v23 : ∀ (a0 : Nat) (a1 : Int32) (a2 : Int32) (a3 : Int32) (a4 : Int32) (A : xH) (P : xP), f a0 a1 a2 a3 a4 A P → ∀ (μ : xM) (L : xL) (st : List Value) (B : xH), I23 a0 a1 a2 a3 a4 A P μ L st B → k_X12_treesOf_23 P (xB (I23 a0 a1 a2 a3 a4 A P) μ) L st B) : xCon l yX12_treesOf cX12_treesOf 8 (some .int) 1 21 xN xN 0 xFT xFT (w_RIIII f) := by
  refine xc_RIIII (plainFor_of_name pn_RX12) (by decide +kernel) (fun p e s m args below meth c g a0 a1 a2 a3 a4 A P h X hr _ => ?_)
  have h23 := x_loop1 (p := p) (l := l) (e := e) (R := { frames := 1, cells := 0, slots := 0, locals := 21 }) (s := s) (m := m) (args := args) (below := below) (meth := meth) (c := c) (g := g) (nL := 8) (F := xFT) (n := xN) (cells := 0) (slots := 0) (Q := MQ below (xQc g xFT xN P) args s 0 0 (xFr g)) (I := I23 a0 a1 a2 a3 a4 A P) (pc1 := 23) (fun μ i23 => xAt_mono (t_X12_treesOf_23 (P := P) X hr i23) (v23 a0 a1 a2 a3 a4 A P h μ))
  exact ⟨_, v0 a0 a1 a2 a3 a4 A P h, t_X12_treesOf_0 X hr h23⟩
def bsU (A : xH) (g : xV) (ρ : Nat → Nat) (i j : Nat) : Prop := ∀ m, m < 5 → xi A 213 (81 * m + 9 * i + j) = nI (min (bW g ρ m i j) 10000)
def whU (A : xH) (g : xV) (ρ : Nat → Nat) (i j : Nat) : Prop := ∀ m, m < 5 → xi A 214 (81 * m + 9 * i + j) = nI (min (tW g ρ 0 m i j) 10000)
def f_X12_treesOf (q : Nat) (x y z w : Int32) (A : xH) (P : xP) : Prop := q = 180 ∧ ∃ (g : xV) (ρ : Nat → Nat) (k i j v : Nat), k < 5 ∧ i ≤ j ∧ j ≤ 8 ∧ v < 243 ∧ x = nI k ∧ y = nI i ∧ z = nI j ∧ w = nI v ∧ noU A g v ∧ chU A g v ∧ (i < j → bsU A g ρ i j) ∧ P (some (.int (nI (min (tW g ρ v k i j) 10000)))) A
def to23 (A : xH) (P : xP) : xM → xK := fun μ L st B => ∃ (g : xV) (ρ : Nat → Nat) (k i j v m : Nat), k < 5 ∧ i < j ∧ j ≤ 8 ∧ v < 243 ∧ chU A g v ∧ bsU A g ρ i j ∧ P (some (.int (nI (min (tW g ρ v k i j) 10000)))) A ∧ m ≤ 5 ∧ B = A ∧ st = [] ∧ L = [some (.ref 180), some (.int (nI k)), some (.int (nI i)), some (.int (nI j)), some (.int (nI v)), some (.long (lN (min (sgm (fun m => cW g v k m * bW g ρ m i j) m) 10000))), none, some (.int (nI m))] ∧ μ = (5 - m, 0, 0)
set_option maxRecDepth 20000 in
theorem con_X12_treesOf (l : Launch) : xCon l yX12_treesOf cX12_treesOf 8 (some .int) 1 21 xN xN 0 xFT xFT (w_RIIII f_X12_treesOf) := by
  refine m_X12_treesOf (I23 := fun q x y z w A P => to23 A P) ?_ ?_
  · rintro q x y z w A P ⟨rfl, g, ρ, k, i, j, v, hk, hij, hj, hv, rfl, rfl, rfl, rfl, hn, hc, hb, hP⟩
    simp (disch := omega) only [k_X12_treesOf_0, k_X12_treesOf_23, w_J, x_aload, x_cs1, x_i2l, x_iadd, x_icmp_ge, x_icmp_ne, x_iinc, x_iload, x_imul, x_iret, x_istore, x_l2i, x_ladd, x_lload, x_lmul, x_lstore, x_push, y_getF, y_iald, xFT, xbool0, xbool1, Nat.reduceAdd, Nat.zero_add, xgl_0, xgl_s, xgl_n, xst_0, xst_1n, xst_1i, xst_1r, xst_1l, xst_s, set_0, set_s, true_and, and_true, xres, xcat_nil, xcat_i, xcat_r, xcat_l, Nat.add_zero, xble0, xble1, xble2, xble3, xble4, xble5, xble6, xble7, xble8, pk_mul, nI_add, nI_1, nI_leI, nI_ltI, nI_eq, n_in, n_cl, z_eq, z_lt, z_le, z_gt, z_ge, z_qe, o_eq, o_lt, o_le, o_gt, o_ge, vp0, vp1, cl0, cl1, n_sub, n_sub1, n_pm1, n_a0, n_0a, ofn, lN0, Nat.reduceLT, Nat.reduceLeDiff, Nat.reduceMul, Nat.reduceSub, Nat.reduceEqDiff, ne_eq, true_implies, false_implies, not_true_eq_false, not_false_eq_true, and_self, and_true, true_and, and_false, false_and, implies_true, if_true, if_false, i00, i10, i01, i11, ob_0, ob_1, tn_2, ln_2, ob_3, tn_4, ln_4, ob_5, tn_6, ln_6, tn_7, ln_7, ob_8, tn_9, ln_9, tn_10, ln_10, tn_11, ln_11, tn_12, ln_12, tn_13, ln_13, tn_14, ln_14, tn_15, ln_15, tn_16, ln_16, tn_17, ln_17, ob_18, tn_19, ln_19, tn_20, ln_20, tn_21, ln_21, tn_22, ln_22, tn_23, ln_23, tn_24, ln_24, tn_25, ln_25, tn_26, ln_26, tn_27, ln_27, ob_28, tn_29, ln_29, tn_30, ln_30, ob_31, tn_32, ln_32, tn_33, ln_33, ob_34, ob_35, tn_36, ln_36, tn_37, ln_37, tn_38, ln_38, ob_39, tn_40, ln_40, tn_41, ln_41, tn_42, ln_42, tn_43, ln_43, tn_44, ln_44, tn_45, ln_45, tn_46, ln_46, tn_47, ln_47, tn_48, ln_48, tn_49, ln_49, tn_50, ln_50, tn_51, ln_51, ob_52, tn_53, ln_53, tn_54, ln_54, tn_55, ln_55, tn_56, ln_56, ob_57, tn_58, ln_58, tn_59, ln_59, tn_60, ln_60, tn_61, ln_61, tn_62, ln_62, tn_63, ln_63, tn_64, ln_64, tn_65, ln_65, ob_66, tn_67, ln_67, tn_68, ln_68, tn_69, ln_69, tn_70, ln_70, tn_71, ln_71, tn_72, ln_72, tn_73, ln_73, ob_74, tn_75, ln_75, tn_76, ln_76, tn_77, ln_77, tn_78, ln_78, tn_79, ln_79, tn_80, ln_80, tn_81, ln_81, tn_82, ln_82, tn_83, ln_83, ob_84, tn_85, ln_85, tn_86, ln_86, tn_87, ln_87, tn_88, ln_88, tn_89, ln_89, tn_90, ln_90, tn_91, ln_91, tn_92, ln_92, tn_93, ln_93, ob_94, tn_95, ln_95, tn_96, ln_96, tn_97, ln_97, tn_98, ln_98, tn_99, ln_99, tn_100, ln_100, tn_101, ln_101, tn_102, ln_102, tn_103, ln_103, ob_104, tn_105, ln_105, tn_106, ln_106, tn_107, ln_107, tn_108, ln_108, tn_109, ln_109, tn_110, ln_110, tn_111, ln_111, tn_112, ln_112, tn_113, ln_113, ob_114, tn_115, ln_115, tn_116, ln_116, tn_117, ln_117, tn_118, ln_118, tn_119, ln_119, tn_120, ln_120, tn_121, ln_121, tn_122, ln_122, tn_123, ln_123, ob_124, tn_125, ln_125, tn_126, ln_126, tn_127, ln_127, tn_128, ln_128, tn_129, ln_129, tn_130, ln_130, tn_131, ln_131, tn_132, ln_132, tn_133, ln_133, ob_134, tn_135, ln_135, tn_136, ln_136, tn_137, ln_137, tn_138, ln_138, tn_139, ln_139, tn_140, ln_140, tn_141, ln_141, tn_142, ln_142, tn_143, ln_143, ob_144, tn_145, ln_145, tn_146, ln_146, tn_147, ln_147, tn_148, ln_148, tn_149, ln_149, tn_150, ln_150, tn_151, ln_151, tn_152, ln_152, tn_153, ln_153, ob_154, tn_155, ln_155, tn_156, ln_156, tn_157, ln_157, tn_158, ln_158, tn_159, ln_159, tn_160, ln_160, tn_161, ln_161, tn_162, ln_162, tn_163, ln_163, ob_164, tn_165, ln_165, tn_166, ln_166, ob_167, tn_168, ln_168, tn_169, ln_169, tn_170, ln_170, tn_171, ln_171, tn_172, ln_172, tn_173, ln_173, tn_174, ln_174, tn_175, ln_175, tn_176, ln_176, ob_177, tn_178, ln_178, tn_179, ln_179, ob_180, tn_181, ln_181, tn_182, ln_182, tn_183, ln_183, tn_184, ln_184, tn_185, ln_185, tn_186, ln_186, tn_187, ln_187, tn_188, ln_188, tn_189, ln_189, tn_190, ln_190, tn_191, ln_191, tn_192, ln_192, tn_193, ln_193, tn_194, ln_194, tn_195, ln_195, tn_196, ln_196, tn_197, ln_197, tn_198, ln_198, tn_199, ln_199, tn_200, ln_200, tn_201, ln_201, tn_202, ln_202, tn_203, ln_203, tn_204, ln_204, tn_205, ln_205, tn_206, ln_206, tn_207, ln_207, tn_208, ln_208, tn_209, ln_209, tn_210, ln_210, tn_211, ln_211, tn_212, ln_212, tn_213, ln_213, tn_214, ln_214, tn_215, ln_215, tn_216, ln_216, tn_217, ln_217, tn_218, ln_218, tn_219, ln_219, tn_220, ln_220, tn_221, ln_221, tn_222, ln_222, tn_223, ln_223, tn_224, ln_224, tn_225, ln_225, tn_226, ln_226, tn_227, ln_227, tn_228, ln_228, tn_229, ln_229, tn_230, ln_230, lx2, lx3, lx4, lx5, lx6, lx7, lx8, lx9, lx10, lx14, lx15, lx16, lx18, lx20, lx24, lx25, lx27, lx32, lx36, lx40, lx41, lx42, lx43, lx45, lx48, lx52, lx54, lx56, lx57, lx58, lx60, lx61, lx62, lx63, lx64, lx66, lx69, lx73, lx80, lx81, lx84, lx85, lx87, lx94, lx96, lx97, lx120, lx128, lx135, lx160, lx162, lx163, lx165, lx200, lx232, lx242, lx243, lx255, lx256, lx320, lx325, lx400, lx405, lx464, lx512, lx600, lx640, lx752, lx900, lx940, lx1000, lx1024, lx1764, lx3360, lx3840, lx5000, lx6400, lx9050, lx9998, lx9999, lx10000, lx25600, lx76800, lx99999]
    refine ⟨fun ne => ?_, fun e => ⟨by omega, ?_⟩⟩
    · exact xE0 (5 - 0, 0, 0) ⟨g, ρ, k, i, j, v, 0, hk, by omega, hj, hv, hc, hb (by omega), hP, Nat.zero_le _, rfl, rfl, rfl, rfl⟩
    · unfold tW at hP
      rw [if_pos e] at hP
      rw [hn k hk]; exact hP
  · rintro q x y z w A P - μ L st B ⟨g, ρ, k, i, j, v, m, hk, hij, hj, hv, hc, hb, hP, hm, rfl, rfl, rfl, rfl⟩
    have a1 : min (sgm (fun m => cW g v k m * bW g ρ m i j) m) 10000 ≤ 10000 := Nat.min_le_right _ _
    simp (disch := omega) only [k_X12_treesOf_0, k_X12_treesOf_23, w_J, x_aload, x_cs1, x_i2l, x_iadd, x_icmp_ge, x_icmp_ne, x_iinc, x_iload, x_imul, x_iret, x_istore, x_l2i, x_ladd, x_lload, x_lmul, x_lstore, x_push, y_getF, y_iald, xFT, xbool0, xbool1, Nat.reduceAdd, Nat.zero_add, xgl_0, xgl_s, xgl_n, xst_0, xst_1n, xst_1i, xst_1r, xst_1l, xst_s, set_0, set_s, true_and, and_true, xres, xcat_nil, xcat_i, xcat_r, xcat_l, Nat.add_zero, xble0, xble1, xble2, xble3, xble4, xble5, xble6, xble7, xble8, pk_mul, nI_add, nI_1, nI_leI, nI_ltI, nI_eq, n_in, n_cl, z_eq, z_lt, z_le, z_gt, z_ge, z_qe, o_eq, o_lt, o_le, o_gt, o_ge, vp0, vp1, cl0, cl1, n_sub, n_sub1, n_pm1, n_a0, n_0a, ofn, lN0, Nat.reduceLT, Nat.reduceLeDiff, Nat.reduceMul, Nat.reduceSub, Nat.reduceEqDiff, ne_eq, true_implies, false_implies, not_true_eq_false, not_false_eq_true, and_self, and_true, true_and, and_false, false_and, implies_true, if_true, if_false, i00, i10, i01, i11, ob_0, ob_1, tn_2, ln_2, ob_3, tn_4, ln_4, ob_5, tn_6, ln_6, tn_7, ln_7, ob_8, tn_9, ln_9, tn_10, ln_10, tn_11, ln_11, tn_12, ln_12, tn_13, ln_13, tn_14, ln_14, tn_15, ln_15, tn_16, ln_16, tn_17, ln_17, ob_18, tn_19, ln_19, tn_20, ln_20, tn_21, ln_21, tn_22, ln_22, tn_23, ln_23, tn_24, ln_24, tn_25, ln_25, tn_26, ln_26, tn_27, ln_27, ob_28, tn_29, ln_29, tn_30, ln_30, ob_31, tn_32, ln_32, tn_33, ln_33, ob_34, ob_35, tn_36, ln_36, tn_37, ln_37, tn_38, ln_38, ob_39, tn_40, ln_40, tn_41, ln_41, tn_42, ln_42, tn_43, ln_43, tn_44, ln_44, tn_45, ln_45, tn_46, ln_46, tn_47, ln_47, tn_48, ln_48, tn_49, ln_49, tn_50, ln_50, tn_51, ln_51, ob_52, tn_53, ln_53, tn_54, ln_54, tn_55, ln_55, tn_56, ln_56, ob_57, tn_58, ln_58, tn_59, ln_59, tn_60, ln_60, tn_61, ln_61, tn_62, ln_62, tn_63, ln_63, tn_64, ln_64, tn_65, ln_65, ob_66, tn_67, ln_67, tn_68, ln_68, tn_69, ln_69, tn_70, ln_70, tn_71, ln_71, tn_72, ln_72, tn_73, ln_73, ob_74, tn_75, ln_75, tn_76, ln_76, tn_77, ln_77, tn_78, ln_78, tn_79, ln_79, tn_80, ln_80, tn_81, ln_81, tn_82, ln_82, tn_83, ln_83, ob_84, tn_85, ln_85, tn_86, ln_86, tn_87, ln_87, tn_88, ln_88, tn_89, ln_89, tn_90, ln_90, tn_91, ln_91, tn_92, ln_92, tn_93, ln_93, ob_94, tn_95, ln_95, tn_96, ln_96, tn_97, ln_97, tn_98, ln_98, tn_99, ln_99, tn_100, ln_100, tn_101, ln_101, tn_102, ln_102, tn_103, ln_103, ob_104, tn_105, ln_105, tn_106, ln_106, tn_107, ln_107, tn_108, ln_108, tn_109, ln_109, tn_110, ln_110, tn_111, ln_111, tn_112, ln_112, tn_113, ln_113, ob_114, tn_115, ln_115, tn_116, ln_116, tn_117, ln_117, tn_118, ln_118, tn_119, ln_119, tn_120, ln_120, tn_121, ln_121, tn_122, ln_122, tn_123, ln_123, ob_124, tn_125, ln_125, tn_126, ln_126, tn_127, ln_127, tn_128, ln_128, tn_129, ln_129, tn_130, ln_130, tn_131, ln_131, tn_132, ln_132, tn_133, ln_133, ob_134, tn_135, ln_135, tn_136, ln_136, tn_137, ln_137, tn_138, ln_138, tn_139, ln_139, tn_140, ln_140, tn_141, ln_141, tn_142, ln_142, tn_143, ln_143, ob_144, tn_145, ln_145, tn_146, ln_146, tn_147, ln_147, tn_148, ln_148, tn_149, ln_149, tn_150, ln_150, tn_151, ln_151, tn_152, ln_152, tn_153, ln_153, ob_154, tn_155, ln_155, tn_156, ln_156, tn_157, ln_157, tn_158, ln_158, tn_159, ln_159, tn_160, ln_160, tn_161, ln_161, tn_162, ln_162, tn_163, ln_163, ob_164, tn_165, ln_165, tn_166, ln_166, ob_167, tn_168, ln_168, tn_169, ln_169, tn_170, ln_170, tn_171, ln_171, tn_172, ln_172, tn_173, ln_173, tn_174, ln_174, tn_175, ln_175, tn_176, ln_176, ob_177, tn_178, ln_178, tn_179, ln_179, ob_180, tn_181, ln_181, tn_182, ln_182, tn_183, ln_183, tn_184, ln_184, tn_185, ln_185, tn_186, ln_186, tn_187, ln_187, tn_188, ln_188, tn_189, ln_189, tn_190, ln_190, tn_191, ln_191, tn_192, ln_192, tn_193, ln_193, tn_194, ln_194, tn_195, ln_195, tn_196, ln_196, tn_197, ln_197, tn_198, ln_198, tn_199, ln_199, tn_200, ln_200, tn_201, ln_201, tn_202, ln_202, tn_203, ln_203, tn_204, ln_204, tn_205, ln_205, tn_206, ln_206, tn_207, ln_207, tn_208, ln_208, tn_209, ln_209, tn_210, ln_210, tn_211, ln_211, tn_212, ln_212, tn_213, ln_213, tn_214, ln_214, tn_215, ln_215, tn_216, ln_216, tn_217, ln_217, tn_218, ln_218, tn_219, ln_219, tn_220, ln_220, tn_221, ln_221, tn_222, ln_222, tn_223, ln_223, tn_224, ln_224, tn_225, ln_225, tn_226, ln_226, tn_227, ln_227, tn_228, ln_228, tn_229, ln_229, tn_230, ln_230, lx2, lx3, lx4, lx5, lx6, lx7, lx8, lx9, lx10, lx14, lx15, lx16, lx18, lx20, lx24, lx25, lx27, lx32, lx36, lx40, lx41, lx42, lx43, lx45, lx48, lx52, lx54, lx56, lx57, lx58, lx60, lx61, lx62, lx63, lx64, lx66, lx69, lx73, lx80, lx81, lx84, lx85, lx87, lx94, lx96, lx97, lx120, lx128, lx135, lx160, lx162, lx163, lx165, lx200, lx232, lx242, lx243, lx255, lx256, lx320, lx325, lx400, lx405, lx464, lx512, lx600, lx640, lx752, lx900, lx940, lx1000, lx1024, lx1764, lx3360, lx3840, lx5000, lx6400, lx9050, lx9998, lx9999, lx10000, lx25600, lx76800, lx99999, lN_i]
    refine ⟨fun z => ?_, fun z => ?_⟩
    · have e : m = 5 := by omega
      subst e
      unfold tW at hP
      rw [if_neg (by omega)] at hP
      exact hP
    · have hm5 : m < 5 := by omega
      have a2 : min (cW g v k m) 10000 ≤ 10000 := Nat.min_le_right _ _
      have a3 : min (bW g ρ m i j) 10000 ≤ 10000 := Nat.min_le_right _ _
      have a4 := Nat.mul_le_mul a2 a3
      rw [hc k m hk hm5, hb m hm5, nI_l (by omega), nI_l (by omega), lN_mul, lN_add]
      refine ⟨by omega, by omega, less_U (by omega) rfl ?_⟩
      simp (disch := omega) only [k_X12_treesOf_0, k_X12_treesOf_23, w_J, x_aload, x_cs1, x_i2l, x_iadd, x_icmp_ge, x_icmp_ne, x_iinc, x_iload, x_imul, x_iret, x_istore, x_l2i, x_ladd, x_lload, x_lmul, x_lstore, x_push, y_getF, y_iald, xFT, xbool0, xbool1, Nat.reduceAdd, Nat.zero_add, xgl_0, xgl_s, xgl_n, xst_0, xst_1n, xst_1i, xst_1r, xst_1l, xst_s, set_0, set_s, true_and, and_true, xres, xcat_nil, xcat_i, xcat_r, xcat_l, Nat.add_zero, xble0, xble1, xble2, xble3, xble4, xble5, xble6, xble7, xble8, pk_mul, nI_add, nI_1, nI_leI, nI_ltI, nI_eq, n_in, n_cl, z_eq, z_lt, z_le, z_gt, z_ge, z_qe, o_eq, o_lt, o_le, o_gt, o_ge, vp0, vp1, cl0, cl1, n_sub, n_sub1, n_pm1, n_a0, n_0a, ofn, lN0, Nat.reduceLT, Nat.reduceLeDiff, Nat.reduceMul, Nat.reduceSub, Nat.reduceEqDiff, ne_eq, true_implies, false_implies, not_true_eq_false, not_false_eq_true, and_self, and_true, true_and, and_false, false_and, implies_true, if_true, if_false, i00, i10, i01, i11, ob_0, ob_1, tn_2, ln_2, ob_3, tn_4, ln_4, ob_5, tn_6, ln_6, tn_7, ln_7, ob_8, tn_9, ln_9, tn_10, ln_10, tn_11, ln_11, tn_12, ln_12, tn_13, ln_13, tn_14, ln_14, tn_15, ln_15, tn_16, ln_16, tn_17, ln_17, ob_18, tn_19, ln_19, tn_20, ln_20, tn_21, ln_21, tn_22, ln_22, tn_23, ln_23, tn_24, ln_24, tn_25, ln_25, tn_26, ln_26, tn_27, ln_27, ob_28, tn_29, ln_29, tn_30, ln_30, ob_31, tn_32, ln_32, tn_33, ln_33, ob_34, ob_35, tn_36, ln_36, tn_37, ln_37, tn_38, ln_38, ob_39, tn_40, ln_40, tn_41, ln_41, tn_42, ln_42, tn_43, ln_43, tn_44, ln_44, tn_45, ln_45, tn_46, ln_46, tn_47, ln_47, tn_48, ln_48, tn_49, ln_49, tn_50, ln_50, tn_51, ln_51, ob_52, tn_53, ln_53, tn_54, ln_54, tn_55, ln_55, tn_56, ln_56, ob_57, tn_58, ln_58, tn_59, ln_59, tn_60, ln_60, tn_61, ln_61, tn_62, ln_62, tn_63, ln_63, tn_64, ln_64, tn_65, ln_65, ob_66, tn_67, ln_67, tn_68, ln_68, tn_69, ln_69, tn_70, ln_70, tn_71, ln_71, tn_72, ln_72, tn_73, ln_73, ob_74, tn_75, ln_75, tn_76, ln_76, tn_77, ln_77, tn_78, ln_78, tn_79, ln_79, tn_80, ln_80, tn_81, ln_81, tn_82, ln_82, tn_83, ln_83, ob_84, tn_85, ln_85, tn_86, ln_86, tn_87, ln_87, tn_88, ln_88, tn_89, ln_89, tn_90, ln_90, tn_91, ln_91, tn_92, ln_92, tn_93, ln_93, ob_94, tn_95, ln_95, tn_96, ln_96, tn_97, ln_97, tn_98, ln_98, tn_99, ln_99, tn_100, ln_100, tn_101, ln_101, tn_102, ln_102, tn_103, ln_103, ob_104, tn_105, ln_105, tn_106, ln_106, tn_107, ln_107, tn_108, ln_108, tn_109, ln_109, tn_110, ln_110, tn_111, ln_111, tn_112, ln_112, tn_113, ln_113, ob_114, tn_115, ln_115, tn_116, ln_116, tn_117, ln_117, tn_118, ln_118, tn_119, ln_119, tn_120, ln_120, tn_121, ln_121, tn_122, ln_122, tn_123, ln_123, ob_124, tn_125, ln_125, tn_126, ln_126, tn_127, ln_127, tn_128, ln_128, tn_129, ln_129, tn_130, ln_130, tn_131, ln_131, tn_132, ln_132, tn_133, ln_133, ob_134, tn_135, ln_135, tn_136, ln_136, tn_137, ln_137, tn_138, ln_138, tn_139, ln_139, tn_140, ln_140, tn_141, ln_141, tn_142, ln_142, tn_143, ln_143, ob_144, tn_145, ln_145, tn_146, ln_146, tn_147, ln_147, tn_148, ln_148, tn_149, ln_149, tn_150, ln_150, tn_151, ln_151, tn_152, ln_152, tn_153, ln_153, ob_154, tn_155, ln_155, tn_156, ln_156, tn_157, ln_157, tn_158, ln_158, tn_159, ln_159, tn_160, ln_160, tn_161, ln_161, tn_162, ln_162, tn_163, ln_163, ob_164, tn_165, ln_165, tn_166, ln_166, ob_167, tn_168, ln_168, tn_169, ln_169, tn_170, ln_170, tn_171, ln_171, tn_172, ln_172, tn_173, ln_173, tn_174, ln_174, tn_175, ln_175, tn_176, ln_176, ob_177, tn_178, ln_178, tn_179, ln_179, ob_180, tn_181, ln_181, tn_182, ln_182, tn_183, ln_183, tn_184, ln_184, tn_185, ln_185, tn_186, ln_186, tn_187, ln_187, tn_188, ln_188, tn_189, ln_189, tn_190, ln_190, tn_191, ln_191, tn_192, ln_192, tn_193, ln_193, tn_194, ln_194, tn_195, ln_195, tn_196, ln_196, tn_197, ln_197, tn_198, ln_198, tn_199, ln_199, tn_200, ln_200, tn_201, ln_201, tn_202, ln_202, tn_203, ln_203, tn_204, ln_204, tn_205, ln_205, tn_206, ln_206, tn_207, ln_207, tn_208, ln_208, tn_209, ln_209, tn_210, ln_210, tn_211, ln_211, tn_212, ln_212, tn_213, ln_213, tn_214, ln_214, tn_215, ln_215, tn_216, ln_216, tn_217, ln_217, tn_218, ln_218, tn_219, ln_219, tn_220, ln_220, tn_221, ln_221, tn_222, ln_222, tn_223, ln_223, tn_224, ln_224, tn_225, ln_225, tn_226, ln_226, tn_227, ln_227, tn_228, ln_228, tn_229, ln_229, tn_230, ln_230, lx2, lx3, lx4, lx5, lx6, lx7, lx8, lx9, lx10, lx14, lx15, lx16, lx18, lx20, lx24, lx25, lx27, lx32, lx36, lx40, lx41, lx42, lx43, lx45, lx48, lx52, lx54, lx56, lx57, lx58, lx60, lx61, lx62, lx63, lx64, lx66, lx69, lx73, lx80, lx81, lx84, lx85, lx87, lx94, lx96, lx97, lx120, lx128, lx135, lx160, lx162, lx163, lx165, lx200, lx232, lx242, lx243, lx255, lx256, lx320, lx325, lx400, lx405, lx464, lx512, lx600, lx640, lx752, lx900, lx940, lx1000, lx1024, lx1764, lx3360, lx3840, lx5000, lx6400, lx9050, lx9998, lx9999, lx10000, lx25600, lx76800, lx99999, lN_i]
      rw [nI_l (by omega), cap_am]
      exact xB1 (b := 5 - (m + 1)) (by omega) ⟨g, ρ, k, i, j, v, m + 1, hk, hij, hj, hv, hc, hb, hP, by omega, rfl, rfl, rfl, rfl⟩

