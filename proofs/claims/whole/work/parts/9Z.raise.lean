/-! ===== the class's raise ===== -/
theorem d_X10_raise_0 : decode cX10_raise 0 = .ok (.aload_n 0, 1) := by decide +kernel
theorem d_X10_raise_1 : decode cX10_raise 1 = .ok (.getfield 46, 3) := by decide +kernel
theorem d_X10_raise_4 : decode cX10_raise 4 = .ok (.istore_n 1, 1) := by decide +kernel
theorem d_X10_raise_5 : decode cX10_raise 5 = .ok (.iconst 0, 1) := by decide +kernel
theorem d_X10_raise_6 : decode cX10_raise 6 = .ok (.istore_n 2, 1) := by decide +kernel
theorem d_X10_raise_7 : decode cX10_raise 7 = .ok (.iload_n 2, 1) := by decide +kernel
theorem d_X10_raise_8 : decode cX10_raise 8 = .ok (.sipush 640, 3) := by decide +kernel
theorem d_X10_raise_11 : decode cX10_raise 11 = .ok (.if_icmp .ge 42, 3) := by decide +kernel
theorem d_X10_raise_14 : decode cX10_raise 14 = .ok (.aload_n 0, 1) := by decide +kernel
theorem d_X10_raise_15 : decode cX10_raise 15 = .ok (.getfield 18, 3) := by decide +kernel
theorem d_X10_raise_18 : decode cX10_raise 18 = .ok (.iload_n 2, 1) := by decide +kernel
theorem d_X10_raise_19 : decode cX10_raise 19 = .ok (.laload, 1) := by decide +kernel
theorem d_X10_raise_20 : decode cX10_raise 20 = .ok (.lconst 0, 1) := by decide +kernel
theorem d_X10_raise_21 : decode cX10_raise 21 = .ok (.lcmp, 1) := by decide +kernel
theorem d_X10_raise_22 : decode cX10_raise 22 = .ok (.ifCond .eq 25, 3) := by decide +kernel
theorem d_X10_raise_25 : decode cX10_raise 25 = .ok (.aload_n 0, 1) := by decide +kernel
theorem d_X10_raise_26 : decode cX10_raise 26 = .ok (.aload_n 0, 1) := by decide +kernel
theorem d_X10_raise_27 : decode cX10_raise 27 = .ok (.getfield 11, 3) := by decide +kernel
theorem d_X10_raise_30 : decode cX10_raise 30 = .ok (.iload_n 2, 1) := by decide +kernel
theorem d_X10_raise_31 : decode cX10_raise 31 = .ok (.aload_n 0, 1) := by decide +kernel
theorem d_X10_raise_32 : decode cX10_raise 32 = .ok (.getfield 18, 3) := by decide +kernel
theorem d_X10_raise_35 : decode cX10_raise 35 = .ok (.iload_n 2, 1) := by decide +kernel
theorem d_X10_raise_36 : decode cX10_raise 36 = .ok (.laload, 1) := by decide +kernel
theorem d_X10_raise_37 : decode cX10_raise 37 = .ok (.invokevirtual 57, 3) := by decide +kernel
theorem d_X10_raise_40 : decode cX10_raise 40 = .ok (.aload_n 0, 1) := by decide +kernel
theorem d_X10_raise_41 : decode cX10_raise 41 = .ok (.getfield 18, 3) := by decide +kernel
theorem d_X10_raise_44 : decode cX10_raise 44 = .ok (.iload_n 2, 1) := by decide +kernel
theorem d_X10_raise_45 : decode cX10_raise 45 = .ok (.lconst 0, 1) := by decide +kernel
theorem d_X10_raise_46 : decode cX10_raise 46 = .ok (.lastore, 1) := by decide +kernel
theorem d_X10_raise_47 : decode cX10_raise 47 = .ok (.iinc 2 1, 3) := by decide +kernel
theorem d_X10_raise_50 : decode cX10_raise 50 = .ok (.goto (-43), 3) := by decide +kernel
theorem d_X10_raise_53 : decode cX10_raise 53 = .ok (.aload_n 0, 1) := by decide +kernel
theorem d_X10_raise_54 : decode cX10_raise 54 = .ok (.getfield 46, 3) := by decide +kernel
theorem d_X10_raise_57 : decode cX10_raise 57 = .ok (.iload_n 1, 1) := by decide +kernel
theorem d_X10_raise_58 : decode cX10_raise 58 = .ok (.if_icmp .le 7, 3) := by decide +kernel
theorem d_X10_raise_61 : decode cX10_raise 61 = .ok (.iconst 1, 1) := by decide +kernel
theorem d_X10_raise_62 : decode cX10_raise 62 = .ok (.goto 4, 3) := by decide +kernel
theorem d_X10_raise_65 : decode cX10_raise 65 = .ok (.iconst 0, 1) := by decide +kernel
theorem d_X10_raise_66 : decode cX10_raise 66 = .ok (.ireturn, 1) := by decide +kernel
def k_X10_raise_0 (P : xP) (C7 : xK) : xK := x_aload 0 (y_getI 52 9 (x_istore 1 (x_push (.int 0) (x_istore 2 (C7)))))
set_option maxRecDepth 20000 in
theorem t_X10_raise_0 {p : Program} {l : Launch} {e : Env} {s : State} {m : MethodId} {args : Array Value} {below : List Frame} {meth : Method} {c : Code} {g : xG} (X : xX p s m args c meth cX10_raise RX10 3 g) (hr : meth.sig.returnType = (some .boolean)) {P : xP} {C7 : xK} (h7 : xAt p l e { frames := 2, cells := 0, slots := 0, locals := 49 } s m args below meth c g 3 xFT xN 0 0 (MQ below (xQc g xFT xN P) args s 0 0 (xFr g)) C7 7) : xAt p l e { frames := 2, cells := 0, slots := 0, locals := 49 } s m args below meth c g 3 xFT xN 0 0 (MQ below (xQc g xFT xN P) args s 0 0 (xFr g)) (k_X10_raise_0 P C7) 0 := by
  unfold k_X10_raise_0
  refine r_aload_n (pc := 0) X d_X10_raise_0 fn0 ?_
  refine s_getI (pc := 1) (ci := 10) X xok10 (by decide +kernel) ob_52 (by decide +kernel) fl_RX10_46 d_X10_raise_1 ?_
  refine r_istore_n (pc := 4) X d_X10_raise_4 fn1 (by decide +kernel) ?_
  refine r_iconst (pc := 5) X d_X10_raise_5 (by decide +kernel) ?_
  refine r_istore_n (pc := 6) X d_X10_raise_6 fn2 (by decide +kernel) ?_
  exact h7
def k_X10_raise_66 (P : xP) : xK := x_zret P
set_option maxRecDepth 20000 in
theorem t_X10_raise_66 {p : Program} {l : Launch} {e : Env} {s : State} {m : MethodId} {args : Array Value} {below : List Frame} {meth : Method} {c : Code} {g : xG} (X : xX p s m args c meth cX10_raise RX10 3 g) (hr : meth.sig.returnType = (some .boolean)) {P : xP} : xAt p l e { frames := 2, cells := 0, slots := 0, locals := 49 } s m args below meth c g 3 xFT xN 0 0 (MQ below (xQc g xFT xN P) args s 0 0 (xFr g)) (k_X10_raise_66 P) 66 := by
  unfold k_X10_raise_66
  exact r_zret (pc := 66) X hr d_X10_raise_66
def k_X10_raise_47 (P : xP) (C7 : xK) : xK := x_iinc 2 1 (C7)
set_option maxRecDepth 20000 in
theorem t_X10_raise_47 {p : Program} {l : Launch} {e : Env} {s : State} {m : MethodId} {args : Array Value} {below : List Frame} {meth : Method} {c : Code} {g : xG} (X : xX p s m args c meth cX10_raise RX10 3 g) (hr : meth.sig.returnType = (some .boolean)) {P : xP} {C7 : xK} (h7 : xAt p l e { frames := 2, cells := 0, slots := 0, locals := 49 } s m args below meth c g 3 xFT xN 0 0 (MQ below (xQc g xFT xN P) args s 0 0 (xFr g)) C7 7) : xAt p l e { frames := 2, cells := 0, slots := 0, locals := 49 } s m args below meth c g 3 xFT xN 0 0 (MQ below (xQc g xFT xN P) args s 0 0 (xFr g)) (k_X10_raise_47 P C7) 47 := by
  unfold k_X10_raise_47
  refine r_iinc (pc := 47) X d_X10_raise_47 (by decide +kernel) (by decide +kernel) ?_
  refine r_goto (pc := 50) (tgt := 7) X d_X10_raise_50 (by decide +kernel) ?_
  exact h7
def k_X10_raise_7 (P : xP) (C7 : xK) : xK := x_iload 2 (x_push (.int 640) (x_icmp_ge (x_aload 0 (y_getI 52 9 (x_iload 1 (x_icmp_le (x_push (.int 0) ((k_X10_raise_66 P))) (x_push (.int 1) ((k_X10_raise_66 P))))))) (x_aload 0 (y_getF 52 55 (x_iload 2 (y_lald 55 640 (x_push (.long 0) (x_lcmp (x_if_eq ((k_X10_raise_47 P C7)) (x_aload 0 (x_aload 0 (y_getF 52 53 (x_iload 2 (x_aload 0 (y_getF 52 55 (x_iload 2 (y_lald 55 640 (y_cv3 52 (w_RRIJ f_X10_enter) (x_aload 0 (y_getF 52 55 (x_iload 2 (x_push (.long 0) (y_last 55 640 ((k_X10_raise_47 P C7)))))))))))))))))))))))))
set_option maxRecDepth 20000 in
theorem t_X10_raise_7 {p : Program} {l : Launch} {e : Env} {s : State} {m : MethodId} {args : Array Value} {below : List Frame} {meth : Method} {c : Code} {g : xG} (X : xX p s m args c meth cX10_raise RX10 3 g) (hr : meth.sig.returnType = (some .boolean)) {P : xP} {C7 : xK} (h7 : xAt p l e { frames := 2, cells := 0, slots := 0, locals := 49 } s m args below meth c g 3 xFT xN 0 0 (MQ below (xQc g xFT xN P) args s 0 0 (xFr g)) C7 7) : xAt p l e { frames := 2, cells := 0, slots := 0, locals := 49 } s m args below meth c g 3 xFT xN 0 0 (MQ below (xQc g xFT xN P) args s 0 0 (xFr g)) (k_X10_raise_7 P C7) 7 := by
  unfold k_X10_raise_7
  refine r_iload_n (pc := 7) X d_X10_raise_7 fn2 ?_
  refine r_sipush (pc := 8) X d_X10_raise_8 (by decide +kernel) ?_
  refine r_icmp_ge (pc := 11) (tgt := 53) X d_X10_raise_11 (by decide +kernel) ?_ ?_
  · refine r_aload_n (pc := 53) X d_X10_raise_53 fn0 ?_
    refine s_getI (pc := 54) (ci := 10) X xok10 (by decide +kernel) ob_52 (by decide +kernel) fl_RX10_46 d_X10_raise_54 ?_
    refine r_iload_n (pc := 57) X d_X10_raise_57 fn1 ?_
    refine r_icmp_le (pc := 58) (tgt := 65) X d_X10_raise_58 (by decide +kernel) ?_ ?_
    · refine r_iconst (pc := 65) X d_X10_raise_65 (by decide +kernel) ?_
      exact t_X10_raise_66 X hr
    · refine r_iconst (pc := 61) X d_X10_raise_61 (by decide +kernel) ?_
      refine r_goto (pc := 62) (tgt := 66) X d_X10_raise_62 (by decide +kernel) ?_
      exact t_X10_raise_66 X hr
  · refine r_aload_n (pc := 14) X d_X10_raise_14 fn0 ?_
    refine s_getF (pc := 15) (ci := 10) (k := 6) X xok10 (by decide +kernel) ob_52 trivial ly_52_6 (by decide +kernel) fl_RX10_18 d_X10_raise_15 ?_
    refine r_iload_n (pc := 18) X d_X10_raise_18 fn2 ?_
    refine s_lald (pc := 19) X tn_55 ln_55 d_X10_raise_19 ?_
    refine r_lconst (pc := 20) X d_X10_raise_20 (by decide +kernel) ?_
    refine r_lcmp (pc := 21) X d_X10_raise_21 ?_
    refine r_if_eq (pc := 22) (tgt := 47) X d_X10_raise_22 (by decide +kernel) ?_ ?_
    · exact t_X10_raise_47 X hr h7
    · refine r_aload_n (pc := 25) X d_X10_raise_25 fn0 ?_
      refine r_aload_n (pc := 26) X d_X10_raise_26 fn0 ?_
      refine s_getF (pc := 27) (ci := 10) (k := 4) X xok10 (by decide +kernel) ob_52 trivial ly_52_4 (by decide +kernel) fl_RX10_11 d_X10_raise_27 ?_
      refine r_iload_n (pc := 30) X d_X10_raise_30 fn2 ?_
      refine r_aload_n (pc := 31) X d_X10_raise_31 fn0 ?_
      refine s_getF (pc := 32) (ci := 10) (k := 6) X xok10 (by decide +kernel) ob_52 trivial ly_52_6 (by decide +kernel) fl_RX10_18 d_X10_raise_32 ?_
      refine r_iload_n (pc := 35) X d_X10_raise_35 fn2 ?_
      refine s_lald (pc := 36) X tn_55 ln_55 d_X10_raise_36 ?_
      refine s_cv3 (pc := 37) (ci := 10) X xok10 (by decide +kernel) ob_52 rfl (con_X10_enter l) mf_X10_enter ml_RX10_57 (by decide +kernel) (by decide +kernel) d_X10_raise_37 ?_
      refine r_aload_n (pc := 40) X d_X10_raise_40 fn0 ?_
      refine s_getF (pc := 41) (ci := 10) (k := 6) X xok10 (by decide +kernel) ob_52 trivial ly_52_6 (by decide +kernel) fl_RX10_18 d_X10_raise_41 ?_
      refine r_iload_n (pc := 44) X d_X10_raise_44 fn2 ?_
      refine r_lconst (pc := 45) X d_X10_raise_45 (by decide +kernel) ?_
      refine s_last (pc := 46) X tn_55 ln_55 d_X10_raise_46 ?_
      exact t_X10_raise_47 X hr h7
set_option maxRecDepth 20000 in
theorem m_X10_raise {l : Launch} {f : Nat → xH → xP → Prop}  {I7 : Nat → xH → xP → xM → xK}
    (v0 : ∀ (a0 : Nat) (A : xH) (P : xP), f a0 A P → k_X10_raise_0 P (xE (I7 a0 A P)) [some (.ref a0), none, none] [] A)
    (v7 : ∀ (a0 : Nat) (A : xH) (P : xP), f a0 A P → ∀ (μ : xM) (L : xL) (st : List Value) (B : xH), I7 a0 A P μ L st B → k_X10_raise_7 P (xB (I7 a0 A P) μ) L st B) : xCon l yX10_raise cX10_raise 3 (some .boolean) 2 49 xN xN 0 xFT xFT (w_R f) := by
  refine xc_R (plainFor_of_name pn_RX10) (by decide +kernel) (fun p e s m args below meth c g a0 A P h X hr _ => ?_)
  have h7 := x_loop1 (p := p) (l := l) (e := e) (R := { frames := 2, cells := 0, slots := 0, locals := 49 }) (s := s) (m := m) (args := args) (below := below) (meth := meth) (c := c) (g := g) (nL := 3) (F := xFT) (n := xN) (cells := 0) (slots := 0) (Q := MQ below (xQc g xFT xN P) args s 0 0 (xFr g)) (I := I7 a0 A P) (pc1 := 7) (fun μ i7 => xAt_mono (t_X10_raise_7 (P := P) X hr i7) (v7 a0 A P h μ))
  exact ⟨_, v0 a0 A P h, t_X10_raise_0 X hr h7⟩
def rowA (m : Nat) : Nat := m / 80 * 2 + m % 80 / 64
theorem enV_r {t m : Nat} {x : Int64} (ht : t < 640) : enV t x m ↔ rowA m = t ∧ tl x (m % 80 % 64) = true := by
  have := Nat.mod_lt m (show 80 > 0 by omega)
  unfold enV rowA
  constructor
  · rintro ⟨a, b, c⟩; exact ⟨by omega, c⟩
  · rintro ⟨a, c⟩; exact ⟨by omega, by omega, c⟩
theorem by_en {D : Nat → Prop} {A : xH} {t m : Nat} (h : byS D A) (ht : t < 640) : enV t (xl A 55 t) m ↔ rowA m = t ∧ D m := by
  rw [enV_r ht]
  have hm := Nat.mod_lt m (show 80 > 0 by omega)
  have hj : m % 80 % 64 < 64 := Nat.mod_lt _ (by omega)
  constructor
  · rintro ⟨a, b⟩
    have := ((h t _ ht hj).mp b).2
    unfold rowA at a
    rw [show t / 2 * 80 + t % 2 * 64 + m % 80 % 64 = m by omega] at this
    exact ⟨a, this⟩
  · rintro ⟨a, b⟩
    refine ⟨a, (h t _ ht hj).mpr ?_⟩
    unfold rowA at a
    rw [show t / 2 * 80 + t % 2 * 64 + m % 80 % 64 = m by omega]
    exact ⟨by omega, b⟩
def raP (A : xH) (P : xP) (R D : Nat → Prop) (n : Nat) : Prop := ∀ B n', fr SGo2 A B → n ≤ n' → (∀ k, k < n → xi B 56 k = xi A 56 k) → csS 53 (fun m => R m ∨ D m) n' B → byS (fun _ => False) B → P (some (.int (bI (decide (n < n'))))) B
def f_X10_raise (q : Nat) (A : xH) (P : xP) : Prop := q = 52 ∧ ∃ (R D : Nat → Prop) (n : Nat), csS 53 R n A ∧ byS D A ∧ raP A P R D n
def ra7 (A : xH) (P : xP) : xM → xK := fun μ L st B => ∃ (R D : Nat → Prop) (n t n' : Nat), raP A P R D n ∧ fr SGo2 A B ∧ n ≤ n' ∧ (∀ k, k < n → xi B 56 k = xi A 56 k) ∧ t ≤ 640 ∧ csS 53 (fun m => R m ∨ (D m ∧ rowA m < t)) n' B ∧ byS (fun m => D m ∧ t ≤ rowA m) B ∧ st = [] ∧ L = [some (.ref 52), some (.int (nI n)), some (.int (nI t))] ∧ μ = (640 - t, 0, 0)
theorem by_0 {D : Nat → Prop} {A : xH} {t : Nat} (h : byS D A) (ht : t < 640) (hz : xl A 55 t = 0) : ∀ m, rowA m = t → ¬ D m := fun m hm w => by
  have := ((by_en h ht (m := m)).mpr ⟨hm, w⟩)
  rw [enV_r ht, hz, tl_0] at this
  cases this.2
set_option maxRecDepth 20000 in
theorem con_X10_raise (l : Launch) : xCon l yX10_raise cX10_raise 3 (some .boolean) 2 49 xN xN 0 xFT xFT (w_R f_X10_raise) := by
  refine m_X10_raise (I7 := fun q A P => ra7 A P) ?_ ?_
  · rintro q A P ⟨rfl, R, D, n, hS, hB, hP⟩
    have hn := okA_le hS.1
    simp (disch := omega) only [k_X10_raise_0, k_X10_raise_7, k_X10_raise_47, k_X10_raise_66, w_RRIJ, x_aload, x_icmp_ge, x_icmp_le, x_if_eq, x_iinc, x_iload, x_istore, x_lcmp, x_push, x_zret, y_cv3, y_getF, y_getI, y_lald, y_last, xFT, xbool0, xbool1, Nat.reduceAdd, Nat.zero_add, xgl_0, xgl_s, xgl_n, xst_0, xst_1n, xst_1i, xst_1r, xst_1l, xst_s, set_0, set_s, true_and, and_true, xres, xcat_nil, xcat_i, xcat_r, xcat_l, Nat.add_zero, xble0, xble1, xble2, xble3, xble4, xble5, xble6, xble7, xble8, pk_mul, nI_add, nI_1, nI_leI, nI_ltI, nI_eq, n_in, n_cl, z_eq, z_lt, z_le, z_gt, z_ge, z_qe, o_eq, o_lt, o_le, o_gt, o_ge, vp0, vp1, cl0, cl1, n_sub, n_sub1, n_pm1, n_a0, n_0a, ofn, lN0, Nat.reduceLT, Nat.reduceLeDiff, Nat.reduceMul, Nat.reduceSub, Nat.reduceEqDiff, ne_eq, true_implies, false_implies, not_true_eq_false, not_false_eq_true, and_self, and_true, true_and, and_false, false_and, implies_true, if_true, if_false, i00, i10, i01, i11, ob_0, ob_1, tn_2, ln_2, ob_3, tn_4, ln_4, ob_5, tn_6, ln_6, tn_7, ln_7, ob_8, tn_9, ln_9, tn_10, ln_10, tn_11, ln_11, tn_12, ln_12, tn_13, ln_13, tn_14, ln_14, tn_15, ln_15, tn_16, ln_16, tn_17, ln_17, ob_18, tn_19, ln_19, tn_20, ln_20, tn_21, ln_21, tn_22, ln_22, tn_23, ln_23, tn_24, ln_24, tn_25, ln_25, tn_26, ln_26, tn_27, ln_27, ob_28, tn_29, ln_29, tn_30, ln_30, ob_31, tn_32, ln_32, tn_33, ln_33, ob_34, ob_35, tn_36, ln_36, tn_37, ln_37, tn_38, ln_38, ob_39, tn_40, ln_40, tn_41, ln_41, tn_42, ln_42, tn_43, ln_43, tn_44, ln_44, tn_45, ln_45, tn_46, ln_46, tn_47, ln_47, tn_48, ln_48, tn_49, ln_49, tn_50, ln_50, tn_51, ln_51, ob_52, tn_53, ln_53, tn_54, ln_54, tn_55, ln_55, tn_56, ln_56, ob_57, tn_58, ln_58, tn_59, ln_59, tn_60, ln_60, tn_61, ln_61, tn_62, ln_62, tn_63, ln_63, tn_64, ln_64, tn_65, ln_65, ob_66, tn_67, ln_67, tn_68, ln_68, tn_69, ln_69, tn_70, ln_70, tn_71, ln_71, tn_72, ln_72, tn_73, ln_73, ob_74, tn_75, ln_75, tn_76, ln_76, tn_77, ln_77, tn_78, ln_78, tn_79, ln_79, tn_80, ln_80, tn_81, ln_81, tn_82, ln_82, tn_83, ln_83, ob_84, tn_85, ln_85, tn_86, ln_86, tn_87, ln_87, tn_88, ln_88, tn_89, ln_89, tn_90, ln_90, tn_91, ln_91, tn_92, ln_92, tn_93, ln_93, ob_94, tn_95, ln_95, tn_96, ln_96, tn_97, ln_97, tn_98, ln_98, tn_99, ln_99, tn_100, ln_100, tn_101, ln_101, tn_102, ln_102, tn_103, ln_103, ob_104, tn_105, ln_105, tn_106, ln_106, tn_107, ln_107, tn_108, ln_108, tn_109, ln_109, tn_110, ln_110, tn_111, ln_111, tn_112, ln_112, tn_113, ln_113, ob_114, tn_115, ln_115, tn_116, ln_116, tn_117, ln_117, tn_118, ln_118, tn_119, ln_119, tn_120, ln_120, tn_121, ln_121, tn_122, ln_122, tn_123, ln_123, ob_124, tn_125, ln_125, tn_126, ln_126, tn_127, ln_127, tn_128, ln_128, tn_129, ln_129, tn_130, ln_130, tn_131, ln_131, tn_132, ln_132, tn_133, ln_133, ob_134, tn_135, ln_135, tn_136, ln_136, tn_137, ln_137, tn_138, ln_138, tn_139, ln_139, tn_140, ln_140, tn_141, ln_141, tn_142, ln_142, tn_143, ln_143, ob_144, tn_145, ln_145, tn_146, ln_146, tn_147, ln_147, tn_148, ln_148, tn_149, ln_149, tn_150, ln_150, tn_151, ln_151, tn_152, ln_152, tn_153, ln_153, ob_154, tn_155, ln_155, tn_156, ln_156, tn_157, ln_157, tn_158, ln_158, tn_159, ln_159, tn_160, ln_160, tn_161, ln_161, tn_162, ln_162, tn_163, ln_163, ob_164, tn_165, ln_165, tn_166, ln_166, ob_167, tn_168, ln_168, tn_169, ln_169, tn_170, ln_170, tn_171, ln_171, tn_172, ln_172, tn_173, ln_173, tn_174, ln_174, tn_175, ln_175, tn_176, ln_176, ob_177, tn_178, ln_178, tn_179, ln_179, ob_180, tn_181, ln_181, tn_182, ln_182, tn_183, ln_183, tn_184, ln_184, tn_185, ln_185, tn_186, ln_186, tn_187, ln_187, tn_188, ln_188, tn_189, ln_189, tn_190, ln_190, tn_191, ln_191, tn_192, ln_192, tn_193, ln_193, tn_194, ln_194, tn_195, ln_195, tn_196, ln_196, tn_197, ln_197, tn_198, ln_198, tn_199, ln_199, tn_200, ln_200, tn_201, ln_201, tn_202, ln_202, tn_203, ln_203, tn_204, ln_204, tn_205, ln_205, tn_206, ln_206, tn_207, ln_207, tn_208, ln_208, tn_209, ln_209, tn_210, ln_210, tn_211, ln_211, tn_212, ln_212, tn_213, ln_213, tn_214, ln_214, tn_215, ln_215, tn_216, ln_216, tn_217, ln_217, tn_218, ln_218, tn_219, ln_219, tn_220, ln_220, tn_221, ln_221, tn_222, ln_222, tn_223, ln_223, tn_224, ln_224, tn_225, ln_225, tn_226, ln_226, tn_227, ln_227, tn_228, ln_228, tn_229, ln_229, tn_230, ln_230, lx2, lx3, lx4, lx5, lx6, lx7, lx8, lx9, lx10, lx14, lx15, lx16, lx18, lx20, lx24, lx25, lx27, lx32, lx36, lx40, lx41, lx42, lx43, lx45, lx48, lx52, lx54, lx56, lx57, lx58, lx60, lx61, lx62, lx63, lx64, lx66, lx69, lx73, lx80, lx81, lx84, lx85, lx87, lx94, lx96, lx97, lx120, lx128, lx135, lx160, lx162, lx163, lx165, lx200, lx232, lx242, lx243, lx255, lx256, lx320, lx325, lx400, lx405, lx464, lx512, lx600, lx640, lx752, lx900, lx940, lx1000, lx1024, lx1764, lx3360, lx3840, lx5000, lx6400, lx9050, lx9998, lx9999, lx10000, lx25600, lx76800, lx99999, si_ne, si_eq, sl_ne, sl_eq, xl_si, xi_sl, sA_ne, sA_eq, xl_sA, hS.2.1]
    exact xE0 (640 - 0, 0, 0) ⟨R, D, n, 0, n, hP, fr_rf, Nat.le_refl _, fun _ _ => rfl, by omega, csS_congr hS fun m _ => ⟨Or.inl, fun w => w.elim id fun w => absurd w.2 (Nat.not_lt_zero _)⟩, byS_congr hB fun m _ => ⟨fun w => ⟨w, Nat.zero_le _⟩, fun w => w.1⟩, rfl, rfl, rfl⟩
  · rintro q A P - μ L st B ⟨R, D, n, t, n', hP, hF, hn, hpre, ht, hS, hB, rfl, rfl, rfl⟩
    have hn' := okA_le hS.1
    simp (disch := omega) only [k_X10_raise_0, k_X10_raise_7, k_X10_raise_47, k_X10_raise_66, w_RRIJ, x_aload, x_icmp_ge, x_icmp_le, x_if_eq, x_iinc, x_iload, x_istore, x_lcmp, x_push, x_zret, y_cv3, y_getF, y_getI, y_lald, y_last, xFT, xbool0, xbool1, Nat.reduceAdd, Nat.zero_add, xgl_0, xgl_s, xgl_n, xst_0, xst_1n, xst_1i, xst_1r, xst_1l, xst_s, set_0, set_s, true_and, and_true, xres, xcat_nil, xcat_i, xcat_r, xcat_l, Nat.add_zero, xble0, xble1, xble2, xble3, xble4, xble5, xble6, xble7, xble8, pk_mul, nI_add, nI_1, nI_leI, nI_ltI, nI_eq, n_in, n_cl, z_eq, z_lt, z_le, z_gt, z_ge, z_qe, o_eq, o_lt, o_le, o_gt, o_ge, vp0, vp1, cl0, cl1, n_sub, n_sub1, n_pm1, n_a0, n_0a, ofn, lN0, Nat.reduceLT, Nat.reduceLeDiff, Nat.reduceMul, Nat.reduceSub, Nat.reduceEqDiff, ne_eq, true_implies, false_implies, not_true_eq_false, not_false_eq_true, and_self, and_true, true_and, and_false, false_and, implies_true, if_true, if_false, i00, i10, i01, i11, ob_0, ob_1, tn_2, ln_2, ob_3, tn_4, ln_4, ob_5, tn_6, ln_6, tn_7, ln_7, ob_8, tn_9, ln_9, tn_10, ln_10, tn_11, ln_11, tn_12, ln_12, tn_13, ln_13, tn_14, ln_14, tn_15, ln_15, tn_16, ln_16, tn_17, ln_17, ob_18, tn_19, ln_19, tn_20, ln_20, tn_21, ln_21, tn_22, ln_22, tn_23, ln_23, tn_24, ln_24, tn_25, ln_25, tn_26, ln_26, tn_27, ln_27, ob_28, tn_29, ln_29, tn_30, ln_30, ob_31, tn_32, ln_32, tn_33, ln_33, ob_34, ob_35, tn_36, ln_36, tn_37, ln_37, tn_38, ln_38, ob_39, tn_40, ln_40, tn_41, ln_41, tn_42, ln_42, tn_43, ln_43, tn_44, ln_44, tn_45, ln_45, tn_46, ln_46, tn_47, ln_47, tn_48, ln_48, tn_49, ln_49, tn_50, ln_50, tn_51, ln_51, ob_52, tn_53, ln_53, tn_54, ln_54, tn_55, ln_55, tn_56, ln_56, ob_57, tn_58, ln_58, tn_59, ln_59, tn_60, ln_60, tn_61, ln_61, tn_62, ln_62, tn_63, ln_63, tn_64, ln_64, tn_65, ln_65, ob_66, tn_67, ln_67, tn_68, ln_68, tn_69, ln_69, tn_70, ln_70, tn_71, ln_71, tn_72, ln_72, tn_73, ln_73, ob_74, tn_75, ln_75, tn_76, ln_76, tn_77, ln_77, tn_78, ln_78, tn_79, ln_79, tn_80, ln_80, tn_81, ln_81, tn_82, ln_82, tn_83, ln_83, ob_84, tn_85, ln_85, tn_86, ln_86, tn_87, ln_87, tn_88, ln_88, tn_89, ln_89, tn_90, ln_90, tn_91, ln_91, tn_92, ln_92, tn_93, ln_93, ob_94, tn_95, ln_95, tn_96, ln_96, tn_97, ln_97, tn_98, ln_98, tn_99, ln_99, tn_100, ln_100, tn_101, ln_101, tn_102, ln_102, tn_103, ln_103, ob_104, tn_105, ln_105, tn_106, ln_106, tn_107, ln_107, tn_108, ln_108, tn_109, ln_109, tn_110, ln_110, tn_111, ln_111, tn_112, ln_112, tn_113, ln_113, ob_114, tn_115, ln_115, tn_116, ln_116, tn_117, ln_117, tn_118, ln_118, tn_119, ln_119, tn_120, ln_120, tn_121, ln_121, tn_122, ln_122, tn_123, ln_123, ob_124, tn_125, ln_125, tn_126, ln_126, tn_127, ln_127, tn_128, ln_128, tn_129, ln_129, tn_130, ln_130, tn_131, ln_131, tn_132, ln_132, tn_133, ln_133, ob_134, tn_135, ln_135, tn_136, ln_136, tn_137, ln_137, tn_138, ln_138, tn_139, ln_139, tn_140, ln_140, tn_141, ln_141, tn_142, ln_142, tn_143, ln_143, ob_144, tn_145, ln_145, tn_146, ln_146, tn_147, ln_147, tn_148, ln_148, tn_149, ln_149, tn_150, ln_150, tn_151, ln_151, tn_152, ln_152, tn_153, ln_153, ob_154, tn_155, ln_155, tn_156, ln_156, tn_157, ln_157, tn_158, ln_158, tn_159, ln_159, tn_160, ln_160, tn_161, ln_161, tn_162, ln_162, tn_163, ln_163, ob_164, tn_165, ln_165, tn_166, ln_166, ob_167, tn_168, ln_168, tn_169, ln_169, tn_170, ln_170, tn_171, ln_171, tn_172, ln_172, tn_173, ln_173, tn_174, ln_174, tn_175, ln_175, tn_176, ln_176, ob_177, tn_178, ln_178, tn_179, ln_179, ob_180, tn_181, ln_181, tn_182, ln_182, tn_183, ln_183, tn_184, ln_184, tn_185, ln_185, tn_186, ln_186, tn_187, ln_187, tn_188, ln_188, tn_189, ln_189, tn_190, ln_190, tn_191, ln_191, tn_192, ln_192, tn_193, ln_193, tn_194, ln_194, tn_195, ln_195, tn_196, ln_196, tn_197, ln_197, tn_198, ln_198, tn_199, ln_199, tn_200, ln_200, tn_201, ln_201, tn_202, ln_202, tn_203, ln_203, tn_204, ln_204, tn_205, ln_205, tn_206, ln_206, tn_207, ln_207, tn_208, ln_208, tn_209, ln_209, tn_210, ln_210, tn_211, ln_211, tn_212, ln_212, tn_213, ln_213, tn_214, ln_214, tn_215, ln_215, tn_216, ln_216, tn_217, ln_217, tn_218, ln_218, tn_219, ln_219, tn_220, ln_220, tn_221, ln_221, tn_222, ln_222, tn_223, ln_223, tn_224, ln_224, tn_225, ln_225, tn_226, ln_226, tn_227, ln_227, tn_228, ln_228, tn_229, ln_229, tn_230, ln_230, lx2, lx3, lx4, lx5, lx6, lx7, lx8, lx9, lx10, lx14, lx15, lx16, lx18, lx20, lx24, lx25, lx27, lx32, lx36, lx40, lx41, lx42, lx43, lx45, lx48, lx52, lx54, lx56, lx57, lx58, lx60, lx61, lx62, lx63, lx64, lx66, lx69, lx73, lx80, lx81, lx84, lx85, lx87, lx94, lx96, lx97, lx120, lx128, lx135, lx160, lx162, lx163, lx165, lx200, lx232, lx242, lx243, lx255, lx256, lx320, lx325, lx400, lx405, lx464, lx512, lx600, lx640, lx752, lx900, lx940, lx1000, lx1024, lx1764, lx3360, lx3840, lx5000, lx6400, lx9050, lx9998, lx9999, lx10000, lx25600, lx76800, lx99999, si_ne, si_eq, sl_ne, sl_eq, xl_si, xi_sl, sA_ne, sA_eq, xl_sA, hS.2.1, lcmp0]
    refine ⟨fun z => ?_, fun z => ⟨by omega, fun w => ?_, fun w => ⟨by omega, ?_⟩⟩⟩
    · have e640 : t = 640 := by omega
      subst e640
      have fin := hP B n' hF hn hpre (csS_congr hS fun m hm => by
        have : rowA m < 640 := by unfold rowA; omega
        exact or_congr Iff.rfl ⟨fun w => w.1, fun w => ⟨w, this⟩⟩) (byS_congr hB fun m hm => by
        have : rowA m < 640 := by unfold rowA; omega
        exact ⟨fun w => absurd w.2 (by omega), False.elim⟩)
      refine ⟨fun w => ?_, fun w => ?_⟩
      · rw [decide_eq_false (by omega)] at fin; exact fin
      · rw [decide_eq_true (by omega)] at fin; exact fin
    · have w0 := by_0 hB (show t < 640 by omega) w
      refine xB1 (b := 640 - (t + 1)) (by omega) ⟨R, D, n, t + 1, n', hP, hF, hn, hpre, by omega, csS_congr hS fun m _ => ?_, byS_congr hB fun m _ => ?_, rfl, rfl, rfl⟩
      · constructor
        · rintro (a | ⟨a, b⟩)
          · exact Or.inl a
          · exact Or.inr ⟨a, by omega⟩
        · rintro (a | ⟨a, b⟩)
          · exact Or.inl a
          · by_cases e : rowA m = t
            · exact absurd ⟨a, by omega⟩ (w0 m e)
            · exact Or.inr ⟨a, by omega⟩
      · constructor
        · rintro ⟨a, b⟩
          by_cases e : rowA m = t
          · exact absurd ⟨a, b⟩ (w0 m e)
          · exact ⟨a, by omega⟩
        · rintro ⟨a, b⟩; exact ⟨a, by omega⟩
    · refine ⟨rfl, Or.inl rfl, _, n', t, rfl, by omega, hS, fun j hj q => ((hB t j (by omega) hj).mp q).1, fun C n2 hC h1 h2 h3 => ?_⟩
      simp (disch := omega) only [k_X10_raise_0, k_X10_raise_7, k_X10_raise_47, k_X10_raise_66, w_RRIJ, x_aload, x_icmp_ge, x_icmp_le, x_if_eq, x_iinc, x_iload, x_istore, x_lcmp, x_push, x_zret, y_cv3, y_getF, y_getI, y_lald, y_last, xFT, xbool0, xbool1, Nat.reduceAdd, Nat.zero_add, xgl_0, xgl_s, xgl_n, xst_0, xst_1n, xst_1i, xst_1r, xst_1l, xst_s, set_0, set_s, true_and, and_true, xres, xcat_nil, xcat_i, xcat_r, xcat_l, Nat.add_zero, xble0, xble1, xble2, xble3, xble4, xble5, xble6, xble7, xble8, pk_mul, nI_add, nI_1, nI_leI, nI_ltI, nI_eq, n_in, n_cl, z_eq, z_lt, z_le, z_gt, z_ge, z_qe, o_eq, o_lt, o_le, o_gt, o_ge, vp0, vp1, cl0, cl1, n_sub, n_sub1, n_pm1, n_a0, n_0a, ofn, lN0, Nat.reduceLT, Nat.reduceLeDiff, Nat.reduceMul, Nat.reduceSub, Nat.reduceEqDiff, ne_eq, true_implies, false_implies, not_true_eq_false, not_false_eq_true, and_self, and_true, true_and, and_false, false_and, implies_true, if_true, if_false, i00, i10, i01, i11, ob_0, ob_1, tn_2, ln_2, ob_3, tn_4, ln_4, ob_5, tn_6, ln_6, tn_7, ln_7, ob_8, tn_9, ln_9, tn_10, ln_10, tn_11, ln_11, tn_12, ln_12, tn_13, ln_13, tn_14, ln_14, tn_15, ln_15, tn_16, ln_16, tn_17, ln_17, ob_18, tn_19, ln_19, tn_20, ln_20, tn_21, ln_21, tn_22, ln_22, tn_23, ln_23, tn_24, ln_24, tn_25, ln_25, tn_26, ln_26, tn_27, ln_27, ob_28, tn_29, ln_29, tn_30, ln_30, ob_31, tn_32, ln_32, tn_33, ln_33, ob_34, ob_35, tn_36, ln_36, tn_37, ln_37, tn_38, ln_38, ob_39, tn_40, ln_40, tn_41, ln_41, tn_42, ln_42, tn_43, ln_43, tn_44, ln_44, tn_45, ln_45, tn_46, ln_46, tn_47, ln_47, tn_48, ln_48, tn_49, ln_49, tn_50, ln_50, tn_51, ln_51, ob_52, tn_53, ln_53, tn_54, ln_54, tn_55, ln_55, tn_56, ln_56, ob_57, tn_58, ln_58, tn_59, ln_59, tn_60, ln_60, tn_61, ln_61, tn_62, ln_62, tn_63, ln_63, tn_64, ln_64, tn_65, ln_65, ob_66, tn_67, ln_67, tn_68, ln_68, tn_69, ln_69, tn_70, ln_70, tn_71, ln_71, tn_72, ln_72, tn_73, ln_73, ob_74, tn_75, ln_75, tn_76, ln_76, tn_77, ln_77, tn_78, ln_78, tn_79, ln_79, tn_80, ln_80, tn_81, ln_81, tn_82, ln_82, tn_83, ln_83, ob_84, tn_85, ln_85, tn_86, ln_86, tn_87, ln_87, tn_88, ln_88, tn_89, ln_89, tn_90, ln_90, tn_91, ln_91, tn_92, ln_92, tn_93, ln_93, ob_94, tn_95, ln_95, tn_96, ln_96, tn_97, ln_97, tn_98, ln_98, tn_99, ln_99, tn_100, ln_100, tn_101, ln_101, tn_102, ln_102, tn_103, ln_103, ob_104, tn_105, ln_105, tn_106, ln_106, tn_107, ln_107, tn_108, ln_108, tn_109, ln_109, tn_110, ln_110, tn_111, ln_111, tn_112, ln_112, tn_113, ln_113, ob_114, tn_115, ln_115, tn_116, ln_116, tn_117, ln_117, tn_118, ln_118, tn_119, ln_119, tn_120, ln_120, tn_121, ln_121, tn_122, ln_122, tn_123, ln_123, ob_124, tn_125, ln_125, tn_126, ln_126, tn_127, ln_127, tn_128, ln_128, tn_129, ln_129, tn_130, ln_130, tn_131, ln_131, tn_132, ln_132, tn_133, ln_133, ob_134, tn_135, ln_135, tn_136, ln_136, tn_137, ln_137, tn_138, ln_138, tn_139, ln_139, tn_140, ln_140, tn_141, ln_141, tn_142, ln_142, tn_143, ln_143, ob_144, tn_145, ln_145, tn_146, ln_146, tn_147, ln_147, tn_148, ln_148, tn_149, ln_149, tn_150, ln_150, tn_151, ln_151, tn_152, ln_152, tn_153, ln_153, ob_154, tn_155, ln_155, tn_156, ln_156, tn_157, ln_157, tn_158, ln_158, tn_159, ln_159, tn_160, ln_160, tn_161, ln_161, tn_162, ln_162, tn_163, ln_163, ob_164, tn_165, ln_165, tn_166, ln_166, ob_167, tn_168, ln_168, tn_169, ln_169, tn_170, ln_170, tn_171, ln_171, tn_172, ln_172, tn_173, ln_173, tn_174, ln_174, tn_175, ln_175, tn_176, ln_176, ob_177, tn_178, ln_178, tn_179, ln_179, ob_180, tn_181, ln_181, tn_182, ln_182, tn_183, ln_183, tn_184, ln_184, tn_185, ln_185, tn_186, ln_186, tn_187, ln_187, tn_188, ln_188, tn_189, ln_189, tn_190, ln_190, tn_191, ln_191, tn_192, ln_192, tn_193, ln_193, tn_194, ln_194, tn_195, ln_195, tn_196, ln_196, tn_197, ln_197, tn_198, ln_198, tn_199, ln_199, tn_200, ln_200, tn_201, ln_201, tn_202, ln_202, tn_203, ln_203, tn_204, ln_204, tn_205, ln_205, tn_206, ln_206, tn_207, ln_207, tn_208, ln_208, tn_209, ln_209, tn_210, ln_210, tn_211, ln_211, tn_212, ln_212, tn_213, ln_213, tn_214, ln_214, tn_215, ln_215, tn_216, ln_216, tn_217, ln_217, tn_218, ln_218, tn_219, ln_219, tn_220, ln_220, tn_221, ln_221, tn_222, ln_222, tn_223, ln_223, tn_224, ln_224, tn_225, ln_225, tn_226, ln_226, tn_227, ln_227, tn_228, ln_228, tn_229, ln_229, tn_230, ln_230, lx2, lx3, lx4, lx5, lx6, lx7, lx8, lx9, lx10, lx14, lx15, lx16, lx18, lx20, lx24, lx25, lx27, lx32, lx36, lx40, lx41, lx42, lx43, lx45, lx48, lx52, lx54, lx56, lx57, lx58, lx60, lx61, lx62, lx63, lx64, lx66, lx69, lx73, lx80, lx81, lx84, lx85, lx87, lx94, lx96, lx97, lx120, lx128, lx135, lx160, lx162, lx163, lx165, lx200, lx232, lx242, lx243, lx255, lx256, lx320, lx325, lx400, lx405, lx464, lx512, lx600, lx640, lx752, lx900, lx940, lx1000, lx1024, lx1764, lx3360, lx3840, lx5000, lx6400, lx9050, lx9998, lx9999, lx10000, lx25600, lx76800, lx99999, si_ne, si_eq, sl_ne, sl_eq, xl_si, xi_sl, sA_ne, sA_eq, xl_sA, lcmp0]
      have f55 : fr (fun c k => c = 55 ∧ k = t) C (xsl C 55 t (lN 0)) := fr_sl fr_rf ⟨rfl, rfl⟩
      refine ⟨by omega, xB1 (b := 640 - (t + 1)) (by omega) ⟨R, D, n, t + 1, n2, hP, fr_tr hF (fr_tr (fr_mono hC (by unfold SEn SGo2; omega)) (fr_mono f55 (by unfold SGo2; omega))), by omega, fun k hk => ?_, by omega, csS_congr (csS_fr h3 f55 (by omega)) fun m hm => ?_, fun t' j ht' hj => ?_, rfl, rfl, rfl⟩⟩
      · rw [fr_i f55 (by omega), h2 k (by omega)]; exact hpre k hk
      · rw [by_en hB (by omega)]
        constructor
        · rintro ((a | ⟨a, b⟩) | ⟨a, b, c⟩)
          · exact Or.inl a
          · exact Or.inr ⟨a, by omega⟩
          · exact Or.inr ⟨b, by omega⟩
        · rintro (a | ⟨a, b⟩)
          · exact Or.inl (Or.inl a)
          · by_cases e : rowA m = t
            · exact Or.inr ⟨e, a, by omega⟩
            · exact Or.inl (Or.inr ⟨a, by omega⟩)
      · by_cases e : t' = t
        · subst e
          rw [sl_eq]
          refine ⟨fun q => ?_, fun ⟨a, _, b⟩ => ?_⟩
          · rw [show lN 0 = (0 : Int64) from rfl, tl_0] at q; cases q
          · exfalso
            have hm := Nat.mod_lt t' (show 2 > 0 by omega)
            obtain ⟨d1, d2, d3, d4⟩ := row_d (a := t' / 2) hm hj a
            unfold rowA at b
            rw [d1, d3] at b
            omega
        · rw [sl_ne (by omega), fr_l hC (by unfold SEn; omega), hB t' j ht' hj]
          constructor
          · rintro ⟨a, b, c⟩
            have hm := Nat.mod_lt t' (show 2 > 0 by omega)
            obtain ⟨d1, d2, d3, d4⟩ := row_d (a := t' / 2) hm hj a
            refine ⟨a, b, ?_⟩
            unfold rowA at c ⊢
            rw [d1, d3] at c ⊢
            omega
          · rintro ⟨a, b, c⟩; exact ⟨a, b, by omega⟩

