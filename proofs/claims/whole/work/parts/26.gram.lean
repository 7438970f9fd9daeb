theorem d_X5_nameLine_0 : decode cX5_nameLine 0 = .ok (.aload_n 0, 1) := by decide +kernel
theorem d_X5_nameLine_1 : decode cX5_nameLine 1 = .ok (.getfield 22, 3) := by decide +kernel
theorem d_X5_nameLine_4 : decode cX5_nameLine 4 = .ok (.invokevirtual 88, 3) := by decide +kernel
theorem d_X5_nameLine_7 : decode cX5_nameLine 7 = .ok (.aload_n 0, 1) := by decide +kernel
theorem d_X5_nameLine_8 : decode cX5_nameLine 8 = .ok (.getfield 22, 3) := by decide +kernel
theorem d_X5_nameLine_11 : decode cX5_nameLine 11 = .ok (.invokevirtual 91, 3) := by decide +kernel
theorem d_X5_nameLine_14 : decode cX5_nameLine 14 = .ok (.ifCond .ne 9, 3) := by decide +kernel
theorem d_X5_nameLine_17 : decode cX5_nameLine 17 = .ok (.aload_n 0, 1) := by decide +kernel
theorem d_X5_nameLine_18 : decode cX5_nameLine 18 = .ok (.iconst 1, 1) := by decide +kernel
theorem d_X5_nameLine_19 : decode cX5_nameLine 19 = .ok (.invokevirtual 63, 3) := by decide +kernel
theorem d_X5_nameLine_22 : decode cX5_nameLine 22 = .ok (.ireturn, 1) := by decide +kernel
theorem d_X5_nameLine_23 : decode cX5_nameLine 23 = .ok (.aload_n 0, 1) := by decide +kernel
theorem d_X5_nameLine_24 : decode cX5_nameLine 24 = .ok (.getfield 22, 3) := by decide +kernel
theorem d_X5_nameLine_27 : decode cX5_nameLine 27 = .ok (.getfield 95, 3) := by decide +kernel
theorem d_X5_nameLine_30 : decode cX5_nameLine 30 = .ok (.lstore_n 3, 1) := by decide +kernel
theorem d_X5_nameLine_31 : decode cX5_nameLine 31 = .ok (.aload_n 1, 1) := by decide +kernel
theorem d_X5_nameLine_32 : decode cX5_nameLine 32 = .ok (.lload_n 3, 1) := by decide +kernel
theorem d_X5_nameLine_33 : decode cX5_nameLine 33 = .ok (.invokevirtual 99, 3) := by decide +kernel
theorem d_X5_nameLine_36 : decode cX5_nameLine 36 = .ok (.iconst (-1), 1) := by decide +kernel
theorem d_X5_nameLine_37 : decode cX5_nameLine 37 = .ok (.if_icmp .eq 9, 3) := by decide +kernel
theorem d_X5_nameLine_40 : decode cX5_nameLine 40 = .ok (.aload_n 0, 1) := by decide +kernel
theorem d_X5_nameLine_41 : decode cX5_nameLine 41 = .ok (.iconst 3, 1) := by decide +kernel
theorem d_X5_nameLine_42 : decode cX5_nameLine 42 = .ok (.invokevirtual 63, 3) := by decide +kernel
theorem d_X5_nameLine_45 : decode cX5_nameLine 45 = .ok (.ireturn, 1) := by decide +kernel
theorem d_X5_nameLine_46 : decode cX5_nameLine 46 = .ok (.aload_n 0, 1) := by decide +kernel
theorem d_X5_nameLine_47 : decode cX5_nameLine 47 = .ok (.getfield 22, 3) := by decide +kernel
theorem d_X5_nameLine_50 : decode cX5_nameLine 50 = .ok (.invokevirtual 88, 3) := by decide +kernel
theorem d_X5_nameLine_53 : decode cX5_nameLine 53 = .ok (.aload_n 0, 1) := by decide +kernel
theorem d_X5_nameLine_54 : decode cX5_nameLine 54 = .ok (.invokevirtual 103, 3) := by decide +kernel
theorem d_X5_nameLine_57 : decode cX5_nameLine 57 = .ok (.ifCond .ne 5, 3) := by decide +kernel
theorem d_X5_nameLine_60 : decode cX5_nameLine 60 = .ok (.iconst 0, 1) := by decide +kernel
theorem d_X5_nameLine_61 : decode cX5_nameLine 61 = .ok (.ireturn, 1) := by decide +kernel
theorem d_X5_nameLine_62 : decode cX5_nameLine 62 = .ok (.iload_n 2, 1) := by decide +kernel
theorem d_X5_nameLine_63 : decode cX5_nameLine 63 = .ok (.ifCond .eq 11, 3) := by decide +kernel
theorem d_X5_nameLine_66 : decode cX5_nameLine 66 = .ok (.aload_n 1, 1) := by decide +kernel
theorem d_X5_nameLine_67 : decode cX5_nameLine 67 = .ok (.lload_n 3, 1) := by decide +kernel
theorem d_X5_nameLine_68 : decode cX5_nameLine 68 = .ok (.invokevirtual 106, 3) := by decide +kernel
theorem d_X5_nameLine_71 : decode cX5_nameLine 71 = .ok (.goto 8, 3) := by decide +kernel
theorem d_X5_nameLine_74 : decode cX5_nameLine 74 = .ok (.aload_n 1, 1) := by decide +kernel
theorem d_X5_nameLine_75 : decode cX5_nameLine 75 = .ok (.lload_n 3, 1) := by decide +kernel
theorem d_X5_nameLine_76 : decode cX5_nameLine 76 = .ok (.invokevirtual 110, 3) := by decide +kernel
theorem d_X5_nameLine_79 : decode cX5_nameLine 79 = .ok (.iconst 1, 1) := by decide +kernel
theorem d_X5_nameLine_80 : decode cX5_nameLine 80 = .ok (.ireturn, 1) := by decide +kernel
def k_X5_nameLine_79 (P : xP) : xK := x_push (.int 1) (x_zret P)
set_option maxRecDepth 20000 in
theorem t_X5_nameLine_79 {p : Program} {l : Launch} {e : Env} {s : State} {m : MethodId} {args : Array Value} {below : List Frame} {meth : Method} {c : Code} {g : xG} (X : xX p s m args c meth cX5_nameLine RX5 5 g) (hr : meth.sig.returnType = (some .boolean)) {P : xP} : xAt p l e { frames := 3, cells := 0, slots := 0, locals := 69 } s m args below meth c g 5 xFT xN 0 0 (MQ below (xQc g xFT xN P) args s 0 0 (xFr g)) (k_X5_nameLine_79 P) 79 := by
  unfold k_X5_nameLine_79
  refine r_iconst (pc := 79) X d_X5_nameLine_79 (by decide +kernel) ?_
  exact r_zret (pc := 80) X hr d_X5_nameLine_80
def k_X5_nameLine_0 (P : xP) : xK := x_aload 0 (y_getF 3 1 (y_cv0 1 (w_R f_X9_advance) (x_aload 0 (y_getF 3 1 (y_cv0 1 (w_R f_X9_isName) (x_if_ne (x_aload 0 (y_getF 3 1 (y_getJ 1 6 (x_lstore 3 (x_aload 1 (x_lload 3 (x_cv1 xN 4 (w_RJ f_X4_find) (x_push (.int (-1)) (x_icmp_eq (x_aload 0 (y_getF 3 1 (y_cv0 1 (w_R f_X9_advance) (x_aload 0 (y_cv0 3 (w_R f_X5_lineEnds) (x_if_ne (x_iload 2 (x_if_eq (x_aload 1 (x_lload 3 (x_cv1 xN 4 (w_RJ f_X4_newKind) ((k_X5_nameLine_79 P))))) (x_aload 1 (x_lload 3 (x_cv1 xN 4 (w_RJ f_X4_newSign) ((k_X5_nameLine_79 P))))))) (x_push (.int 0) (x_zret P)))))))) (x_aload 0 (x_push (.int 3) (y_cv1 3 (w_RI f_X5_fail) (x_zret P))))))))))))) (x_aload 0 (x_push (.int 1) (y_cv1 3 (w_RI f_X5_fail) (x_zret P))))))))))
set_option maxRecDepth 20000 in
theorem t_X5_nameLine_0 {p : Program} {l : Launch} {e : Env} {s : State} {m : MethodId} {args : Array Value} {below : List Frame} {meth : Method} {c : Code} {g : xG} (X : xX p s m args c meth cX5_nameLine RX5 5 g) (hr : meth.sig.returnType = (some .boolean)) {P : xP} : xAt p l e { frames := 3, cells := 0, slots := 0, locals := 69 } s m args below meth c g 5 xFT xN 0 0 (MQ below (xQc g xFT xN P) args s 0 0 (xFr g)) (k_X5_nameLine_0 P) 0 := by
  unfold k_X5_nameLine_0
  refine r_aload_n (pc := 0) X d_X5_nameLine_0 fn0 ?_
  refine s_getF (pc := 1) (ci := 5) (k := 0) X xok5 (by decide +kernel) ob_3 trivial ly_3_0 (by decide +kernel) fl_RX5_22 d_X5_nameLine_1 ?_
  refine s_cv0 (pc := 4) (ci := 9) X xok9 (by decide +kernel) ob_1 rfl (con_X9_advance l) mf_X9_advance ml_RX5_88 (by decide +kernel) (by decide +kernel) d_X5_nameLine_4 ?_
  refine r_aload_n (pc := 7) X d_X5_nameLine_7 fn0 ?_
  refine s_getF (pc := 8) (ci := 5) (k := 0) X xok5 (by decide +kernel) ob_3 trivial ly_3_0 (by decide +kernel) fl_RX5_22 d_X5_nameLine_8 ?_
  refine s_cv0 (pc := 11) (ci := 9) X xok9 (by decide +kernel) ob_1 rfl (con_X9_isName l) mf_X9_isName ml_RX5_91 (by decide +kernel) (by decide +kernel) d_X5_nameLine_11 ?_
  refine r_if_ne (pc := 14) (tgt := 23) X d_X5_nameLine_14 (by decide +kernel) ?_ ?_
  · refine r_aload_n (pc := 23) X d_X5_nameLine_23 fn0 ?_
    refine s_getF (pc := 24) (ci := 5) (k := 0) X xok5 (by decide +kernel) ob_3 trivial ly_3_0 (by decide +kernel) fl_RX5_22 d_X5_nameLine_24 ?_
    refine s_getJ (pc := 27) (ci := 9) X xok9 (by decide +kernel) ob_1 (by decide +kernel) fl_RX5_95 d_X5_nameLine_27 ?_
    refine r_lstore_n (pc := 30) X d_X5_nameLine_30 fn3 (by decide +kernel) ?_
    refine r_aload_n (pc := 31) X d_X5_nameLine_31 fn1 ?_
    refine r_lload_n (pc := 32) X d_X5_nameLine_32 fn3 ?_
    refine r_cv1 (pc := 33) X xok4 (by decide +kernel) rfl (con_X4_find l) mf_X4_find ml_RX5_99 (by decide +kernel) (by decide +kernel) d_X5_nameLine_33 ?_
    refine r_iconst (pc := 36) X d_X5_nameLine_36 (by decide +kernel) ?_
    refine r_icmp_eq (pc := 37) (tgt := 46) X d_X5_nameLine_37 (by decide +kernel) ?_ ?_
    · refine r_aload_n (pc := 46) X d_X5_nameLine_46 fn0 ?_
      refine s_getF (pc := 47) (ci := 5) (k := 0) X xok5 (by decide +kernel) ob_3 trivial ly_3_0 (by decide +kernel) fl_RX5_22 d_X5_nameLine_47 ?_
      refine s_cv0 (pc := 50) (ci := 9) X xok9 (by decide +kernel) ob_1 rfl (con_X9_advance l) mf_X9_advance ml_RX5_88 (by decide +kernel) (by decide +kernel) d_X5_nameLine_50 ?_
      refine r_aload_n (pc := 53) X d_X5_nameLine_53 fn0 ?_
      refine s_cv0 (pc := 54) (ci := 5) X xok5 (by decide +kernel) ob_3 rfl (con_X5_lineEnds l) mf_X5_lineEnds ml_RX5_103 (by decide +kernel) (by decide +kernel) d_X5_nameLine_54 ?_
      refine r_if_ne (pc := 57) (tgt := 62) X d_X5_nameLine_57 (by decide +kernel) ?_ ?_
      · refine r_iload_n (pc := 62) X d_X5_nameLine_62 fn2 ?_
        refine r_if_eq (pc := 63) (tgt := 74) X d_X5_nameLine_63 (by decide +kernel) ?_ ?_
        · refine r_aload_n (pc := 74) X d_X5_nameLine_74 fn1 ?_
          refine r_lload_n (pc := 75) X d_X5_nameLine_75 fn3 ?_
          refine r_cv1 (pc := 76) X xok4 (by decide +kernel) rfl (con_X4_newKind l) mf_X4_newKind ml_RX5_110 (by decide +kernel) (by decide +kernel) d_X5_nameLine_76 ?_
          exact t_X5_nameLine_79 X hr
        · refine r_aload_n (pc := 66) X d_X5_nameLine_66 fn1 ?_
          refine r_lload_n (pc := 67) X d_X5_nameLine_67 fn3 ?_
          refine r_cv1 (pc := 68) X xok4 (by decide +kernel) rfl (con_X4_newSign l) mf_X4_newSign ml_RX5_106 (by decide +kernel) (by decide +kernel) d_X5_nameLine_68 ?_
          refine r_goto (pc := 71) (tgt := 79) X d_X5_nameLine_71 (by decide +kernel) ?_
          exact t_X5_nameLine_79 X hr
      · refine r_iconst (pc := 60) X d_X5_nameLine_60 (by decide +kernel) ?_
        exact r_zret (pc := 61) X hr d_X5_nameLine_61
    · refine r_aload_n (pc := 40) X d_X5_nameLine_40 fn0 ?_
      refine r_iconst (pc := 41) X d_X5_nameLine_41 (by decide +kernel) ?_
      refine s_cv1 (pc := 42) (ci := 5) X xok5 (by decide +kernel) ob_3 rfl (con_X5_fail l) mf_X5_fail ml_RX5_63 (by decide +kernel) (by decide +kernel) d_X5_nameLine_42 ?_
      exact r_zret (pc := 45) X hr d_X5_nameLine_45
  · refine r_aload_n (pc := 17) X d_X5_nameLine_17 fn0 ?_
    refine r_iconst (pc := 18) X d_X5_nameLine_18 (by decide +kernel) ?_
    refine s_cv1 (pc := 19) (ci := 5) X xok5 (by decide +kernel) ob_3 rfl (con_X5_fail l) mf_X5_fail ml_RX5_63 (by decide +kernel) (by decide +kernel) d_X5_nameLine_19 ?_
    exact r_zret (pc := 22) X hr d_X5_nameLine_22
set_option maxRecDepth 20000 in
theorem m_X5_nameLine {l : Launch} {f : Nat → Nat → Int32 → xH → xP → Prop} 
    (v0 : ∀ (a0 : Nat) (a1 : Nat) (a2 : Int32) (A : xH) (P : xP), f a0 a1 a2 A P → k_X5_nameLine_0 P [some (.ref a0), some (.ref a1), some (.int a2), none, none] [] A) : xCon l yX5_nameLine cX5_nameLine 5 (some .boolean) 3 69 xN xN 0 xFT xFT (w_RRI f) := by
  refine xc_RRI (plainFor_of_name pn_RX5) (by decide +kernel) (fun p e s m args below meth c g a0 a1 a2 A P h X hr _ => ?_)
  exact ⟨_, v0 a0 a1 a2 A P h, t_X5_nameLine_0 X hr⟩
/-- reader and Model m alone are otherwise -/
def gS (m : Nat) (A B : xH) : Prop := (∀ c, (c < 1 ∨ 4 < c) → (c < m ∨ m + 9 < c) → B.1 c = A.1 c ∧ B.2.1 c = A.2.1 c) ∧ B.2.2 = A.2.2 ∧ (∀ k, xi B 2 k = xi A 2 k) ∧ ∀ k, k ≠ 3 → k ≠ 4 → k ≠ 5 → xi B 1 k = xi A 1 k
theorem gS_rf {m : Nat} {A : xH} : gS m A A := ⟨fun _ _ _ => ⟨rfl, rfl⟩, rfl, fun _ => rfl, fun _ _ _ _ => rfl⟩
theorem gS_tr {m : Nat} {A B C : xH} (h : gS m A B) (h2 : gS m B C) : gS m A C :=
  ⟨fun c a b => ⟨(h2.1 c a b).1.trans (h.1 c a b).1, (h2.1 c a b).2.trans (h.1 c a b).2⟩, h2.2.1.trans h.2.1, fun k => (h2.2.2.1 k).trans (h.2.2.1 k), fun k a b c => (h2.2.2.2 k a b c).trans (h.2.2.2 k a b c)⟩
theorem gS_pS {m : Nat} {A B : xH} (h : pS A B) : gS m A B := ⟨fun c a _ => h.1.1 c (by omega), h.1.2, h.2.1, h.2.2⟩
theorem gS_off {m : Nat} {A B : xH} (h : xoff A B m (m + 9)) (hm : 8 ≤ m) : gS m A B :=
  ⟨fun c _ b => h.1 c (by omega), h.2, fun k => xoff_i h (by omega), fun k _ _ _ => xoff_i h (by omega)⟩
theorem cT_off {A B : xH} {f : Nat → Nat} {n lim p lo hi : Nat} (h : cT A f n lim p) (hf : xoff A B lo hi) (hl : 2 < lo) : cT B f n lim p := by
  have e : ∀ c k, c ≤ 2 → xi B c k = xi A c k := fun c k q => xoff_i hf (by omega)
  obtain ⟨⟨h1, h2, h3⟩, h4, h5, h6, t1, t2, t3, t4⟩ := h
  exact ⟨⟨(e _ _ (by omega)).trans h1, h2, fun j hj => ⟨(e _ _ (by omega)).trans (h3 j hj).1, (h3 j hj).2⟩⟩, (e _ _ (by omega)).trans h4, h5, h6, (e _ _ (by omega)).trans t1, (e _ _ (by omega)).trans t2, (e _ _ (by omega)).trans t3, fun q => (xoff_l hf (by omega)).trans (t4 q)⟩
/-- a line that names a sign, or a kind; its first word is at p -/
def nln (v : xV) (f : Nat → Nat) (n lim p : Nat) (s : Bool) : (Nat × Nat) ⊕ (xV × Nat) :=
  if isNa (tk f n lim (tk f n lim p).2.2.1) = false then .inl (1, (tk f n lim (tk f n lim p).2.2.1).2.1)
  else if vfind v (lN (tk f n lim (tk f n lim p).2.2.1).2.2.2) ≠ -1 then .inl (3, (tk f n lim (tk f n lim p).2.2.1).2.1)
  else if isMk (tk f n lim (tk f n lim (tk f n lim p).2.2.1).2.2.1) 59 = false then .inl (1, (tk f n lim (tk f n lim (tk f n lim p).2.2.1).2.2.1).2.1)
  else .inr (if s then vnewS v (lN (tk f n lim (tk f n lim p).2.2.1).2.2.2) else vnewK v (lN (tk f n lim (tk f n lim p).2.2.1).2.2.2), (tk f n lim (tk f n lim (tk f n lim p).2.2.1).2.2.1).2.2.1)
def GL1 (m : Nat) (A : xH) (P : xP) (r : (Nat × Nat) ⊕ (xV × Nat)) : Prop := ∀ B e d, r = .inl (e, d) → gS m A B → xi B 3 3 = nI e → xi B 3 4 = nI d → P (some (.int 0)) B
def GL2 (m : Nat) (A : xH) (P : xP) (f : Nat → Nat) (n lim : Nat) (r : (Nat × Nat) ⊕ (xV × Nat)) : Prop := ∀ B v z, r = .inr (v, z) → gS m A B → (∀ j, xi B 3 j = xi A 3 j) → isM B m v → cT B f n lim z → P (some (.int 1)) B
theorem GL1_flt {m : Nat} {A B : xH} {P : xP} {r : (Nat × Nat) ⊕ (xV × Nat)} {e d : Nat} (h : GL1 m A P r) (hB : gS m A B) (he : r = .inl (e, d)) : P (some (.int 0)) (fltT B e d) := by
  refine h _ e d he (gS_tr hB (gS_pS (pS_si (pS_si pS_rf (by omega)) (by omega)))) ?_ si_eq
  unfold fltT
  rw [si_ne (by omega), si_eq]
def f_X5_nameLine (q m : Nat) (z : Int32) (A : xH) (P : xP) : Prop := q = 3 ∧ ∃ f n lim p v s, z = bI s ∧ cT A f n lim p ∧ isM A m v ∧ 8 ≤ m ∧ (s = true → vS v < 4) ∧ (s = false → vK v < 5) ∧ GL1 m A P (nln v f n lim p s) ∧ GL2 m A P f n lim (nln v f n lim p s)
theorem con_X5_nameLine (l : Launch) : xCon l yX5_nameLine cX5_nameLine 5 (some .boolean) 3 69 xN xN 0 xFT xFT (w_RRI f_X5_nameLine) := by
  refine m_X5_nameLine ?_
  rintro q m z A P ⟨rfl, f, n, lim, p, v, s, rfl, hc, hM, hm, hs, hk, h1, h2⟩
  have hmc := hM.1.1.1
  simp only [k_X5_nameLine_0, k_X5_nameLine_79, f_X4_find, f_X4_newKind, f_X4_newSign, f_X9_isName, w_R, w_RI, w_RJ, x_aload, x_cv1, x_icmp_eq, x_if_eq, x_if_ne, x_iload, x_lload, x_lstore, x_push, x_zret, y_cv0, y_cv1, y_getF, y_getJ, xFT, xbool0, xbool1, Nat.reduceAdd, Nat.zero_add, xgl_0, xgl_s, xgl_n, xst_0, xst_1n, xst_1i, xst_1r, xst_1l, xst_s, set_0, set_s, true_and, and_true, xres, xcat_nil, xcat_i, xcat_r, xcat_l, Nat.add_zero, xble0, xble1, xble2, xble3, xble4, xble5, xble6, xble7, xble8]
  refine adv_T hc fun B hB hS hcB => ?_
  have hoB := cT_ok hcB
  have htB := hcB.2.2.2.2
  have hMB : isM B m v := isM_off hM hS.1 (by omega)
  simp only [k_X5_nameLine_0, k_X5_nameLine_79, f_X4_find, f_X4_newKind, f_X4_newSign, f_X9_isName, w_R, w_RI, w_RJ, x_aload, x_cv1, x_icmp_eq, x_if_eq, x_if_ne, x_iload, x_lload, x_lstore, x_push, x_zret, y_cv0, y_cv1, y_getF, y_getJ, xFT, xbool0, xbool1, Nat.reduceAdd, Nat.zero_add, xgl_0, xgl_s, xgl_n, xst_0, xst_1n, xst_1i, xst_1r, xst_1l, xst_s, set_0, set_s, true_and, and_true, xres, xcat_nil, xcat_i, xcat_r, xcat_l, Nat.add_zero, xble0, xble1, xble2, xble3, xble4, xble5, xble6, xble7, xble8, f_X9_isName, name_T htB hoB, fail_L 1 htB, fail_L 3 htB, bI_t, f_X4_find, hmc, ne_eq]
  have hval : ¬ isNa (tk f n lim (tk f n lim p).2.2.1) = false → xl B 1 6 = lN (tk f n lim (tk f n lim p).2.2.1).2.2.2 := fun a => htB.2.2.2 (by rw [na_1 (by simpa using a)]; decide)
  refine ⟨fun a => ⟨v, hMB, fun b => adv_T hcB fun D hD hS2 hcD => ?_, fun b => ?_⟩, fun a => ?_⟩
  · rw [hval a] at b ⊢
    have b1 : ¬ vfind v (lN (tk f n lim (tk f n lim p).2.2.1).2.2.2) ≠ -1 := fun q => q b
    simp only [k_X5_nameLine_0, k_X5_nameLine_79, f_X4_find, f_X4_newKind, f_X4_newSign, f_X9_isName, w_R, w_RI, w_RJ, x_aload, x_cv1, x_icmp_eq, x_if_eq, x_if_ne, x_iload, x_lload, x_lstore, x_push, x_zret, y_cv0, y_cv1, y_getF, y_getJ, xFT, xbool0, xbool1, Nat.reduceAdd, Nat.zero_add, xgl_0, xgl_s, xgl_n, xst_0, xst_1n, xst_1i, xst_1r, xst_1l, xst_s, set_0, set_s, true_and, and_true, xres, xcat_nil, xcat_i, xcat_r, xcat_l, Nat.add_zero, xble0, xble1, xble2, xble3, xble4, xble5, xble6, xble7, xble8]
    refine le_T hcD (fun c => ?_) (fun c E hE hS3 hcE => ?_)
    · simp only [k_X5_nameLine_0, k_X5_nameLine_79, f_X4_find, f_X4_newKind, f_X4_newSign, f_X9_isName, w_R, w_RI, w_RJ, x_aload, x_cv1, x_icmp_eq, x_if_eq, x_if_ne, x_iload, x_lload, x_lstore, x_push, x_zret, y_cv0, y_cv1, y_getF, y_getJ, xFT, xbool0, xbool1, Nat.reduceAdd, Nat.zero_add, xgl_0, xgl_s, xgl_n, xst_0, xst_1n, xst_1i, xst_1r, xst_1l, xst_s, set_0, set_s, true_and, and_true, xres, xcat_nil, xcat_i, xcat_r, xcat_l, Nat.add_zero, xble0, xble1, xble2, xble3, xble4, xble5, xble6, xble7, xble8, i00, not_true_eq_false, false_implies, true_implies]
      exact GL1_flt h1 (gS_tr (gS_pS hB) (gS_pS hD)) (by unfold nln; rw [if_neg a, if_neg b1, if_pos c])
    · simp only [k_X5_nameLine_0, k_X5_nameLine_79, f_X4_find, f_X4_newKind, f_X4_newSign, f_X9_isName, w_R, w_RI, w_RJ, x_aload, x_cv1, x_icmp_eq, x_if_eq, x_if_ne, x_iload, x_lload, x_lstore, x_push, x_zret, y_cv0, y_cv1, y_getF, y_getJ, xFT, xbool0, xbool1, Nat.reduceAdd, Nat.zero_add, xgl_0, xgl_s, xgl_n, xst_0, xst_1n, xst_1i, xst_1r, xst_1l, xst_s, set_0, set_s, true_and, and_true, xres, xcat_nil, xcat_i, xcat_r, xcat_l, Nat.add_zero, xble0, xble1, xble2, xble3, xble4, xble5, xble6, xble7, xble8, i10, not_false_eq_true, false_implies, true_implies]
      have hME : isM E m v := isM_off (isM_off hMB hS2.1 (by omega)) hS3.1 (by omega)
      have e3 : ∀ j, xi E 3 j = xi A 3 j := fun j => by rw [xoff_i hS3.1 (by omega), xoff_i hS2.1 (by omega), xoff_i hS.1 (by omega)]
      have hg : gS m A E := gS_tr (gS_pS hB) (gS_tr (gS_pS hD) (gS_pS hE))
      have hr : nln v f n lim p s = .inr (if s then vnewS v (lN (tk f n lim (tk f n lim p).2.2.1).2.2.2) else vnewK v (lN (tk f n lim (tk f n lim p).2.2.1).2.2.2), (tk f n lim (tk f n lim (tk f n lim p).2.2.1).2.2.1).2.2.1) := by unfold nln; rw [if_neg a, if_neg b1, if_neg (by rw [c]; decide)]
      refine ⟨fun q => ⟨v, hME, hk q, fun G hG ho => ?_⟩, fun q => ⟨v, hME, hs (by simpa using q), fun G hG ho => ?_⟩⟩
      · refine h2 G _ _ hr (gS_tr hg (gS_off ho hm)) (fun j => (xoff_i ho (by omega)).trans (e3 j)) ?_ (cT_off hcE ho (by omega))
        rw [q, if_neg (by decide)]
        exact hG
      · refine h2 G _ _ hr (gS_tr hg (gS_off ho hm)) (fun j => (xoff_i ho (by omega)).trans (e3 j)) ?_ (cT_off hcE ho (by omega))
        rw [show s = true by simpa using q, if_pos rfl]
        exact hG
  · rw [hval a] at b
    exact GL1_flt h1 (gS_pS hB) (by unfold nln; rw [if_neg a, if_pos b])
  · exact GL1_flt h1 (gS_pS hB) (by unfold nln; rw [if_pos a])
theorem d_X5_grammarLine_0 : decode cX5_grammarLine 0 = .ok (.aload_n 0, 1) := by decide +kernel
theorem d_X5_grammarLine_1 : decode cX5_grammarLine 1 = .ok (.getfield 22, 3) := by decide +kernel
theorem d_X5_grammarLine_4 : decode cX5_grammarLine 4 = .ok (.ldc2_w 52, 3) := by decide +kernel
theorem d_X5_grammarLine_7 : decode cX5_grammarLine 7 = .ok (.invokevirtual 54, 3) := by decide +kernel
theorem d_X5_grammarLine_10 : decode cX5_grammarLine 10 = .ok (.ifCond .eq 26, 3) := by decide +kernel
theorem d_X5_grammarLine_13 : decode cX5_grammarLine 13 = .ok (.aload_n 1, 1) := by decide +kernel
theorem d_X5_grammarLine_14 : decode cX5_grammarLine 14 = .ok (.getfield 58, 3) := by decide +kernel
theorem d_X5_grammarLine_17 : decode cX5_grammarLine 17 = .ok (.iconst 4, 1) := by decide +kernel
theorem d_X5_grammarLine_18 : decode cX5_grammarLine 18 = .ok (.if_icmp .lt 11, 3) := by decide +kernel
theorem d_X5_grammarLine_21 : decode cX5_grammarLine 21 = .ok (.aload_n 0, 1) := by decide +kernel
theorem d_X5_grammarLine_22 : decode cX5_grammarLine 22 = .ok (.iconst 4, 1) := by decide +kernel
theorem d_X5_grammarLine_23 : decode cX5_grammarLine 23 = .ok (.invokevirtual 63, 3) := by decide +kernel
theorem d_X5_grammarLine_26 : decode cX5_grammarLine 26 = .ok (.goto 9, 3) := by decide +kernel
theorem d_X5_grammarLine_29 : decode cX5_grammarLine 29 = .ok (.aload_n 0, 1) := by decide +kernel
theorem d_X5_grammarLine_30 : decode cX5_grammarLine 30 = .ok (.aload_n 1, 1) := by decide +kernel
theorem d_X5_grammarLine_31 : decode cX5_grammarLine 31 = .ok (.iconst 1, 1) := by decide +kernel
theorem d_X5_grammarLine_32 : decode cX5_grammarLine 32 = .ok (.invokevirtual 67, 3) := by decide +kernel
theorem d_X5_grammarLine_35 : decode cX5_grammarLine 35 = .ok (.ireturn, 1) := by decide +kernel
theorem d_X5_grammarLine_36 : decode cX5_grammarLine 36 = .ok (.aload_n 0, 1) := by decide +kernel
theorem d_X5_grammarLine_37 : decode cX5_grammarLine 37 = .ok (.getfield 22, 3) := by decide +kernel
theorem d_X5_grammarLine_40 : decode cX5_grammarLine 40 = .ok (.ldc2_w 71, 3) := by decide +kernel
theorem d_X5_grammarLine_43 : decode cX5_grammarLine 43 = .ok (.invokevirtual 54, 3) := by decide +kernel
theorem d_X5_grammarLine_46 : decode cX5_grammarLine 46 = .ok (.ifCond .eq 26, 3) := by decide +kernel
theorem d_X5_grammarLine_49 : decode cX5_grammarLine 49 = .ok (.aload_n 1, 1) := by decide +kernel
theorem d_X5_grammarLine_50 : decode cX5_grammarLine 50 = .ok (.getfield 73, 3) := by decide +kernel
theorem d_X5_grammarLine_53 : decode cX5_grammarLine 53 = .ok (.iconst 5, 1) := by decide +kernel
theorem d_X5_grammarLine_54 : decode cX5_grammarLine 54 = .ok (.if_icmp .lt 11, 3) := by decide +kernel
theorem d_X5_grammarLine_57 : decode cX5_grammarLine 57 = .ok (.aload_n 0, 1) := by decide +kernel
theorem d_X5_grammarLine_58 : decode cX5_grammarLine 58 = .ok (.iconst 4, 1) := by decide +kernel
theorem d_X5_grammarLine_59 : decode cX5_grammarLine 59 = .ok (.invokevirtual 63, 3) := by decide +kernel
theorem d_X5_grammarLine_62 : decode cX5_grammarLine 62 = .ok (.goto 9, 3) := by decide +kernel
theorem d_X5_grammarLine_65 : decode cX5_grammarLine 65 = .ok (.aload_n 0, 1) := by decide +kernel
theorem d_X5_grammarLine_66 : decode cX5_grammarLine 66 = .ok (.aload_n 1, 1) := by decide +kernel
theorem d_X5_grammarLine_67 : decode cX5_grammarLine 67 = .ok (.iconst 0, 1) := by decide +kernel
theorem d_X5_grammarLine_68 : decode cX5_grammarLine 68 = .ok (.invokevirtual 67, 3) := by decide +kernel
theorem d_X5_grammarLine_71 : decode cX5_grammarLine 71 = .ok (.ireturn, 1) := by decide +kernel
theorem d_X5_grammarLine_72 : decode cX5_grammarLine 72 = .ok (.aload_n 0, 1) := by decide +kernel
theorem d_X5_grammarLine_73 : decode cX5_grammarLine 73 = .ok (.getfield 22, 3) := by decide +kernel
theorem d_X5_grammarLine_76 : decode cX5_grammarLine 76 = .ok (.ldc2_w 76, 3) := by decide +kernel
theorem d_X5_grammarLine_79 : decode cX5_grammarLine 79 = .ok (.invokevirtual 54, 3) := by decide +kernel
theorem d_X5_grammarLine_82 : decode cX5_grammarLine 82 = .ok (.ifCond .ne 9, 3) := by decide +kernel
theorem d_X5_grammarLine_85 : decode cX5_grammarLine 85 = .ok (.aload_n 0, 1) := by decide +kernel
theorem d_X5_grammarLine_86 : decode cX5_grammarLine 86 = .ok (.iconst 1, 1) := by decide +kernel
theorem d_X5_grammarLine_87 : decode cX5_grammarLine 87 = .ok (.invokevirtual 63, 3) := by decide +kernel
theorem d_X5_grammarLine_90 : decode cX5_grammarLine 90 = .ok (.ireturn, 1) := by decide +kernel
theorem d_X5_grammarLine_91 : decode cX5_grammarLine 91 = .ok (.aload_n 1, 1) := by decide +kernel
theorem d_X5_grammarLine_92 : decode cX5_grammarLine 92 = .ok (.getfield 78, 3) := by decide +kernel
theorem d_X5_grammarLine_95 : decode cX5_grammarLine 95 = .ok (.bipush 10, 2) := by decide +kernel
theorem d_X5_grammarLine_97 : decode cX5_grammarLine 97 = .ok (.if_icmp .lt 9, 3) := by decide +kernel
theorem d_X5_grammarLine_100 : decode cX5_grammarLine 100 = .ok (.aload_n 0, 1) := by decide +kernel
theorem d_X5_grammarLine_101 : decode cX5_grammarLine 101 = .ok (.iconst 4, 1) := by decide +kernel
theorem d_X5_grammarLine_102 : decode cX5_grammarLine 102 = .ok (.invokevirtual 63, 3) := by decide +kernel
theorem d_X5_grammarLine_105 : decode cX5_grammarLine 105 = .ok (.ireturn, 1) := by decide +kernel
theorem d_X5_grammarLine_106 : decode cX5_grammarLine 106 = .ok (.aload_n 0, 1) := by decide +kernel
theorem d_X5_grammarLine_107 : decode cX5_grammarLine 107 = .ok (.aload_n 1, 1) := by decide +kernel
theorem d_X5_grammarLine_108 : decode cX5_grammarLine 108 = .ok (.invokevirtual 81, 3) := by decide +kernel
theorem d_X5_grammarLine_111 : decode cX5_grammarLine 111 = .ok (.ifCond .eq 44, 3) := by decide +kernel
theorem d_X5_grammarLine_114 : decode cX5_grammarLine 114 = .ok (.aload_n 1, 1) := by decide +kernel
theorem d_X5_grammarLine_115 : decode cX5_grammarLine 115 = .ok (.aload_n 0, 1) := by decide +kernel
theorem d_X5_grammarLine_116 : decode cX5_grammarLine 116 = .ok (.getfield 9, 3) := by decide +kernel
theorem d_X5_grammarLine_119 : decode cX5_grammarLine 119 = .ok (.iconst 0, 1) := by decide +kernel
theorem d_X5_grammarLine_120 : decode cX5_grammarLine 120 = .ok (.iaload, 1) := by decide +kernel
theorem d_X5_grammarLine_121 : decode cX5_grammarLine 121 = .ok (.aload_n 0, 1) := by decide +kernel
theorem d_X5_grammarLine_122 : decode cX5_grammarLine 122 = .ok (.getfield 9, 3) := by decide +kernel
theorem d_X5_grammarLine_125 : decode cX5_grammarLine 125 = .ok (.iconst 1, 1) := by decide +kernel
theorem d_X5_grammarLine_126 : decode cX5_grammarLine 126 = .ok (.iaload, 1) := by decide +kernel
theorem d_X5_grammarLine_127 : decode cX5_grammarLine 127 = .ok (.aload_n 0, 1) := by decide +kernel
theorem d_X5_grammarLine_128 : decode cX5_grammarLine 128 = .ok (.getfield 9, 3) := by decide +kernel
theorem d_X5_grammarLine_131 : decode cX5_grammarLine 131 = .ok (.iconst 2, 1) := by decide +kernel
theorem d_X5_grammarLine_132 : decode cX5_grammarLine 132 = .ok (.iaload, 1) := by decide +kernel
theorem d_X5_grammarLine_133 : decode cX5_grammarLine 133 = .ok (.aload_n 0, 1) := by decide +kernel
theorem d_X5_grammarLine_134 : decode cX5_grammarLine 134 = .ok (.getfield 9, 3) := by decide +kernel
theorem d_X5_grammarLine_137 : decode cX5_grammarLine 137 = .ok (.iconst 3, 1) := by decide +kernel
theorem d_X5_grammarLine_138 : decode cX5_grammarLine 138 = .ok (.iaload, 1) := by decide +kernel
theorem d_X5_grammarLine_139 : decode cX5_grammarLine 139 = .ok (.aload_n 0, 1) := by decide +kernel
theorem d_X5_grammarLine_140 : decode cX5_grammarLine 140 = .ok (.getfield 9, 3) := by decide +kernel
theorem d_X5_grammarLine_143 : decode cX5_grammarLine 143 = .ok (.iconst 4, 1) := by decide +kernel
theorem d_X5_grammarLine_144 : decode cX5_grammarLine 144 = .ok (.iaload, 1) := by decide +kernel
theorem d_X5_grammarLine_145 : decode cX5_grammarLine 145 = .ok (.invokevirtual 84, 3) := by decide +kernel
theorem d_X5_grammarLine_148 : decode cX5_grammarLine 148 = .ok (.ifCond .ne 7, 3) := by decide +kernel
theorem d_X5_grammarLine_151 : decode cX5_grammarLine 151 = .ok (.iconst 1, 1) := by decide +kernel
theorem d_X5_grammarLine_152 : decode cX5_grammarLine 152 = .ok (.goto 4, 3) := by decide +kernel
theorem d_X5_grammarLine_155 : decode cX5_grammarLine 155 = .ok (.iconst 0, 1) := by decide +kernel
theorem d_X5_grammarLine_156 : decode cX5_grammarLine 156 = .ok (.ireturn, 1) := by decide +kernel
def k_X5_grammarLine_156 (P : xP) : xK := x_zret P
set_option maxRecDepth 20000 in
theorem t_X5_grammarLine_156 {p : Program} {l : Launch} {e : Env} {s : State} {m : MethodId} {args : Array Value} {below : List Frame} {meth : Method} {c : Code} {g : xG} (X : xX p s m args c meth cX5_grammarLine RX5 2 g) (hr : meth.sig.returnType = (some .boolean)) {P : xP} : xAt p l e { frames := 4, cells := 0, slots := 0, locals := 93 } s m args below meth c g 2 xFT xN 0 0 (MQ below (xQc g xFT xN P) args s 0 0 (xFr g)) (k_X5_grammarLine_156 P) 156 := by
  unfold k_X5_grammarLine_156
  exact r_zret (pc := 156) X hr d_X5_grammarLine_156
def k_X5_grammarLine_155 (P : xP) : xK := x_push (.int 0) ((k_X5_grammarLine_156 P))
set_option maxRecDepth 20000 in
theorem t_X5_grammarLine_155 {p : Program} {l : Launch} {e : Env} {s : State} {m : MethodId} {args : Array Value} {below : List Frame} {meth : Method} {c : Code} {g : xG} (X : xX p s m args c meth cX5_grammarLine RX5 2 g) (hr : meth.sig.returnType = (some .boolean)) {P : xP} : xAt p l e { frames := 4, cells := 0, slots := 0, locals := 93 } s m args below meth c g 2 xFT xN 0 0 (MQ below (xQc g xFT xN P) args s 0 0 (xFr g)) (k_X5_grammarLine_155 P) 155 := by
  unfold k_X5_grammarLine_155
  refine r_iconst (pc := 155) X d_X5_grammarLine_155 (by decide +kernel) ?_
  exact t_X5_grammarLine_156 X hr
def k_X5_grammarLine_71 (P : xP) : xK := x_zret P
set_option maxRecDepth 20000 in
theorem t_X5_grammarLine_71 {p : Program} {l : Launch} {e : Env} {s : State} {m : MethodId} {args : Array Value} {below : List Frame} {meth : Method} {c : Code} {g : xG} (X : xX p s m args c meth cX5_grammarLine RX5 2 g) (hr : meth.sig.returnType = (some .boolean)) {P : xP} : xAt p l e { frames := 4, cells := 0, slots := 0, locals := 93 } s m args below meth c g 2 xFT xN 0 0 (MQ below (xQc g xFT xN P) args s 0 0 (xFr g)) (k_X5_grammarLine_71 P) 71 := by
  unfold k_X5_grammarLine_71
  exact r_zret (pc := 71) X hr d_X5_grammarLine_71
def k_X5_grammarLine_35 (P : xP) : xK := x_zret P
set_option maxRecDepth 20000 in
theorem t_X5_grammarLine_35 {p : Program} {l : Launch} {e : Env} {s : State} {m : MethodId} {args : Array Value} {below : List Frame} {meth : Method} {c : Code} {g : xG} (X : xX p s m args c meth cX5_grammarLine RX5 2 g) (hr : meth.sig.returnType = (some .boolean)) {P : xP} : xAt p l e { frames := 4, cells := 0, slots := 0, locals := 93 } s m args below meth c g 2 xFT xN 0 0 (MQ below (xQc g xFT xN P) args s 0 0 (xFr g)) (k_X5_grammarLine_35 P) 35 := by
  unfold k_X5_grammarLine_35
  exact r_zret (pc := 35) X hr d_X5_grammarLine_35
def k_X5_grammarLine_0 (P : xP) : xK := x_aload 0 (y_getF 3 1 (x_push (.long 1936287598) (y_cv1 1 (w_RJ f_X9_isWord) (x_if_eq (x_aload 0 (y_getF 3 1 (x_push (.long 1802071652) (y_cv1 1 (w_RJ f_X9_isWord) (x_if_eq (x_aload 0 (y_getF 3 1 (x_push (.long 1920298085) (y_cv1 1 (w_RJ f_X9_isWord) (x_if_ne (x_aload 1 (x_getI xN 4 2 (x_push (.int 10) (x_icmp_lt (x_aload 0 (x_aload 1 (y_cv1 3 (w_RR f_X5_ruleLine) (x_if_eq ((k_X5_grammarLine_155 P)) (x_aload 1 (x_aload 0 (y_getF 3 4 (x_push (.int 0) (y_iald 4 5 (x_aload 0 (y_getF 3 4 (x_push (.int 1) (y_iald 4 5 (x_aload 0 (y_getF 3 4 (x_push (.int 2) (y_iald 4 5 (x_aload 0 (y_getF 3 4 (x_push (.int 3) (y_iald 4 5 (x_aload 0 (y_getF 3 4 (x_push (.int 4) (y_iald 4 5 (x_cv5 xN 4 (w_RIIIII f_X4_appendRule) (x_if_ne ((k_X5_grammarLine_155 P)) (x_push (.int 1) ((k_X5_grammarLine_156 P)))))))))))))))))))))))))))))) (x_aload 0 (x_push (.int 4) (y_cv1 3 (w_RI f_X5_fail) (x_zret P)))))))) (x_aload 0 (x_push (.int 1) (y_cv1 3 (w_RI f_X5_fail) (x_zret P))))))))) (x_aload 1 (x_getI xN 4 1 (x_push (.int 5) (x_icmp_lt (x_aload 0 (x_aload 1 (x_push (.int 0) (y_cv2 3 (w_RRI f_X5_nameLine) ((k_X5_grammarLine_71 P)))))) (x_aload 0 (x_push (.int 4) (y_cv1 3 (w_RI f_X5_fail) ((k_X5_grammarLine_71 P)))))))))))))) (x_aload 1 (x_getI xN 4 0 (x_push (.int 4) (x_icmp_lt (x_aload 0 (x_aload 1 (x_push (.int 1) (y_cv2 3 (w_RRI f_X5_nameLine) ((k_X5_grammarLine_35 P)))))) (x_aload 0 (x_push (.int 4) (y_cv1 3 (w_RI f_X5_fail) ((k_X5_grammarLine_35 P)))))))))))))
set_option maxRecDepth 20000 in
theorem t_X5_grammarLine_0 {p : Program} {l : Launch} {e : Env} {s : State} {m : MethodId} {args : Array Value} {below : List Frame} {meth : Method} {c : Code} {g : xG} (X : xX p s m args c meth cX5_grammarLine RX5 2 g) (hr : meth.sig.returnType = (some .boolean)) {P : xP} : xAt p l e { frames := 4, cells := 0, slots := 0, locals := 93 } s m args below meth c g 2 xFT xN 0 0 (MQ below (xQc g xFT xN P) args s 0 0 (xFr g)) (k_X5_grammarLine_0 P) 0 := by
  unfold k_X5_grammarLine_0
  refine r_aload_n (pc := 0) X d_X5_grammarLine_0 fn0 ?_
  refine s_getF (pc := 1) (ci := 5) (k := 0) X xok5 (by decide +kernel) ob_3 trivial ly_3_0 (by decide +kernel) fl_RX5_22 d_X5_grammarLine_1 ?_
  refine r_ldc2 (pc := 4) X cw_RX5_52 d_X5_grammarLine_4 ?_
  refine s_cv1 (pc := 7) (ci := 9) X xok9 (by decide +kernel) ob_1 rfl (con_X9_isWord l) mf_X9_isWord ml_RX5_54 (by decide +kernel) (by decide +kernel) d_X5_grammarLine_7 ?_
  refine r_if_eq (pc := 10) (tgt := 36) X d_X5_grammarLine_10 (by decide +kernel) ?_ ?_
  · refine r_aload_n (pc := 36) X d_X5_grammarLine_36 fn0 ?_
    refine s_getF (pc := 37) (ci := 5) (k := 0) X xok5 (by decide +kernel) ob_3 trivial ly_3_0 (by decide +kernel) fl_RX5_22 d_X5_grammarLine_37 ?_
    refine r_ldc2 (pc := 40) X cw_RX5_71 d_X5_grammarLine_40 ?_
    refine s_cv1 (pc := 43) (ci := 9) X xok9 (by decide +kernel) ob_1 rfl (con_X9_isWord l) mf_X9_isWord ml_RX5_54 (by decide +kernel) (by decide +kernel) d_X5_grammarLine_43 ?_
    refine r_if_eq (pc := 46) (tgt := 72) X d_X5_grammarLine_46 (by decide +kernel) ?_ ?_
    · refine r_aload_n (pc := 72) X d_X5_grammarLine_72 fn0 ?_
      refine s_getF (pc := 73) (ci := 5) (k := 0) X xok5 (by decide +kernel) ob_3 trivial ly_3_0 (by decide +kernel) fl_RX5_22 d_X5_grammarLine_73 ?_
      refine r_ldc2 (pc := 76) X cw_RX5_76 d_X5_grammarLine_76 ?_
      refine s_cv1 (pc := 79) (ci := 9) X xok9 (by decide +kernel) ob_1 rfl (con_X9_isWord l) mf_X9_isWord ml_RX5_54 (by decide +kernel) (by decide +kernel) d_X5_grammarLine_79 ?_
      refine r_if_ne (pc := 82) (tgt := 91) X d_X5_grammarLine_82 (by decide +kernel) ?_ ?_
      · refine r_aload_n (pc := 91) X d_X5_grammarLine_91 fn1 ?_
        refine r_getI (pc := 92) X xok4 (by decide +kernel) (by decide +kernel) fl_RX5_78 d_X5_grammarLine_92 ?_
        refine r_bipush (pc := 95) X d_X5_grammarLine_95 (by decide +kernel) ?_
        refine r_icmp_lt (pc := 97) (tgt := 106) X d_X5_grammarLine_97 (by decide +kernel) ?_ ?_
        · refine r_aload_n (pc := 106) X d_X5_grammarLine_106 fn0 ?_
          refine r_aload_n (pc := 107) X d_X5_grammarLine_107 fn1 ?_
          refine s_cv1 (pc := 108) (ci := 5) X xok5 (by decide +kernel) ob_3 rfl (con_X5_ruleLine l) mf_X5_ruleLine ml_RX5_81 (by decide +kernel) (by decide +kernel) d_X5_grammarLine_108 ?_
          refine r_if_eq (pc := 111) (tgt := 155) X d_X5_grammarLine_111 (by decide +kernel) ?_ ?_
          · exact t_X5_grammarLine_155 X hr
          · refine r_aload_n (pc := 114) X d_X5_grammarLine_114 fn1 ?_
            refine r_aload_n (pc := 115) X d_X5_grammarLine_115 fn0 ?_
            refine s_getF (pc := 116) (ci := 5) (k := 1) X xok5 (by decide +kernel) ob_3 trivial ly_3_1 (by decide +kernel) fl_RX5_9 d_X5_grammarLine_116 ?_
            refine r_iconst (pc := 119) X d_X5_grammarLine_119 (by decide +kernel) ?_
            refine s_iald (pc := 120) X tn_4 ln_4 d_X5_grammarLine_120 ?_
            refine r_aload_n (pc := 121) X d_X5_grammarLine_121 fn0 ?_
            refine s_getF (pc := 122) (ci := 5) (k := 1) X xok5 (by decide +kernel) ob_3 trivial ly_3_1 (by decide +kernel) fl_RX5_9 d_X5_grammarLine_122 ?_
            refine r_iconst (pc := 125) X d_X5_grammarLine_125 (by decide +kernel) ?_
            refine s_iald (pc := 126) X tn_4 ln_4 d_X5_grammarLine_126 ?_
            refine r_aload_n (pc := 127) X d_X5_grammarLine_127 fn0 ?_
            refine s_getF (pc := 128) (ci := 5) (k := 1) X xok5 (by decide +kernel) ob_3 trivial ly_3_1 (by decide +kernel) fl_RX5_9 d_X5_grammarLine_128 ?_
            refine r_iconst (pc := 131) X d_X5_grammarLine_131 (by decide +kernel) ?_
            refine s_iald (pc := 132) X tn_4 ln_4 d_X5_grammarLine_132 ?_
            refine r_aload_n (pc := 133) X d_X5_grammarLine_133 fn0 ?_
            refine s_getF (pc := 134) (ci := 5) (k := 1) X xok5 (by decide +kernel) ob_3 trivial ly_3_1 (by decide +kernel) fl_RX5_9 d_X5_grammarLine_134 ?_
            refine r_iconst (pc := 137) X d_X5_grammarLine_137 (by decide +kernel) ?_
            refine s_iald (pc := 138) X tn_4 ln_4 d_X5_grammarLine_138 ?_
            refine r_aload_n (pc := 139) X d_X5_grammarLine_139 fn0 ?_
            refine s_getF (pc := 140) (ci := 5) (k := 1) X xok5 (by decide +kernel) ob_3 trivial ly_3_1 (by decide +kernel) fl_RX5_9 d_X5_grammarLine_140 ?_
            refine r_iconst (pc := 143) X d_X5_grammarLine_143 (by decide +kernel) ?_
            refine s_iald (pc := 144) X tn_4 ln_4 d_X5_grammarLine_144 ?_
            refine r_cv5 (pc := 145) X xok4 (by decide +kernel) rfl (con_X4_appendRule l) mf_X4_appendRule ml_RX5_84 (by decide +kernel) (by decide +kernel) d_X5_grammarLine_145 ?_
            refine r_if_ne (pc := 148) (tgt := 155) X d_X5_grammarLine_148 (by decide +kernel) ?_ ?_
            · exact t_X5_grammarLine_155 X hr
            · refine r_iconst (pc := 151) X d_X5_grammarLine_151 (by decide +kernel) ?_
              refine r_goto (pc := 152) (tgt := 156) X d_X5_grammarLine_152 (by decide +kernel) ?_
              exact t_X5_grammarLine_156 X hr
        · refine r_aload_n (pc := 100) X d_X5_grammarLine_100 fn0 ?_
          refine r_iconst (pc := 101) X d_X5_grammarLine_101 (by decide +kernel) ?_
          refine s_cv1 (pc := 102) (ci := 5) X xok5 (by decide +kernel) ob_3 rfl (con_X5_fail l) mf_X5_fail ml_RX5_63 (by decide +kernel) (by decide +kernel) d_X5_grammarLine_102 ?_
          exact r_zret (pc := 105) X hr d_X5_grammarLine_105
      · refine r_aload_n (pc := 85) X d_X5_grammarLine_85 fn0 ?_
        refine r_iconst (pc := 86) X d_X5_grammarLine_86 (by decide +kernel) ?_
        refine s_cv1 (pc := 87) (ci := 5) X xok5 (by decide +kernel) ob_3 rfl (con_X5_fail l) mf_X5_fail ml_RX5_63 (by decide +kernel) (by decide +kernel) d_X5_grammarLine_87 ?_
        exact r_zret (pc := 90) X hr d_X5_grammarLine_90
    · refine r_aload_n (pc := 49) X d_X5_grammarLine_49 fn1 ?_
      refine r_getI (pc := 50) X xok4 (by decide +kernel) (by decide +kernel) fl_RX5_73 d_X5_grammarLine_50 ?_
      refine r_iconst (pc := 53) X d_X5_grammarLine_53 (by decide +kernel) ?_
      refine r_icmp_lt (pc := 54) (tgt := 65) X d_X5_grammarLine_54 (by decide +kernel) ?_ ?_
      · refine r_aload_n (pc := 65) X d_X5_grammarLine_65 fn0 ?_
        refine r_aload_n (pc := 66) X d_X5_grammarLine_66 fn1 ?_
        refine r_iconst (pc := 67) X d_X5_grammarLine_67 (by decide +kernel) ?_
        refine s_cv2 (pc := 68) (ci := 5) X xok5 (by decide +kernel) ob_3 rfl (con_X5_nameLine l) mf_X5_nameLine ml_RX5_67 (by decide +kernel) (by decide +kernel) d_X5_grammarLine_68 ?_
        exact t_X5_grammarLine_71 X hr
      · refine r_aload_n (pc := 57) X d_X5_grammarLine_57 fn0 ?_
        refine r_iconst (pc := 58) X d_X5_grammarLine_58 (by decide +kernel) ?_
        refine s_cv1 (pc := 59) (ci := 5) X xok5 (by decide +kernel) ob_3 rfl (con_X5_fail l) mf_X5_fail ml_RX5_63 (by decide +kernel) (by decide +kernel) d_X5_grammarLine_59 ?_
        refine r_goto (pc := 62) (tgt := 71) X d_X5_grammarLine_62 (by decide +kernel) ?_
        exact t_X5_grammarLine_71 X hr
  · refine r_aload_n (pc := 13) X d_X5_grammarLine_13 fn1 ?_
    refine r_getI (pc := 14) X xok4 (by decide +kernel) (by decide +kernel) fl_RX5_58 d_X5_grammarLine_14 ?_
    refine r_iconst (pc := 17) X d_X5_grammarLine_17 (by decide +kernel) ?_
    refine r_icmp_lt (pc := 18) (tgt := 29) X d_X5_grammarLine_18 (by decide +kernel) ?_ ?_
    · refine r_aload_n (pc := 29) X d_X5_grammarLine_29 fn0 ?_
      refine r_aload_n (pc := 30) X d_X5_grammarLine_30 fn1 ?_
      refine r_iconst (pc := 31) X d_X5_grammarLine_31 (by decide +kernel) ?_
      refine s_cv2 (pc := 32) (ci := 5) X xok5 (by decide +kernel) ob_3 rfl (con_X5_nameLine l) mf_X5_nameLine ml_RX5_67 (by decide +kernel) (by decide +kernel) d_X5_grammarLine_32 ?_
      exact t_X5_grammarLine_35 X hr
    · refine r_aload_n (pc := 21) X d_X5_grammarLine_21 fn0 ?_
      refine r_iconst (pc := 22) X d_X5_grammarLine_22 (by decide +kernel) ?_
      refine s_cv1 (pc := 23) (ci := 5) X xok5 (by decide +kernel) ob_3 rfl (con_X5_fail l) mf_X5_fail ml_RX5_63 (by decide +kernel) (by decide +kernel) d_X5_grammarLine_23 ?_
      refine r_goto (pc := 26) (tgt := 35) X d_X5_grammarLine_26 (by decide +kernel) ?_
      exact t_X5_grammarLine_35 X hr
set_option maxRecDepth 20000 in
theorem m_X5_grammarLine {l : Launch} {f : Nat → Nat → xH → xP → Prop} 
    (v0 : ∀ (a0 : Nat) (a1 : Nat) (A : xH) (P : xP), f a0 a1 A P → k_X5_grammarLine_0 P [some (.ref a0), some (.ref a1)] [] A) : xCon l yX5_grammarLine cX5_grammarLine 2 (some .boolean) 4 93 xN xN 0 xFT xFT (w_RR f) := by
  refine xc_RR (plainFor_of_name pn_RX5) (by decide +kernel) (fun p e s m args below meth c g a0 a1 A P h X hr _ => ?_)
  exact ⟨_, v0 a0 a1 A P h, t_X5_grammarLine_0 X hr⟩
theorem vfind_s {v : xV} {w : Int64} {c : Nat} (h : vfind v w = nI c) (h1 : vS v ≤ 4) (h2 : vK v ≤ 5) (hc : c < 13) : c < vS v ∨ (8 ≤ c ∧ c < 8 + vK v) := by
  unfold vfind at h
  split at h
  · have := (nI_eq (by omega) (by omega)).mp h; omega
  · split at h
    · have := (nI_eq (by omega) (by omega)).mp h; omega
    · exact absurd h.symm (n_ne1 (by omega))
theorem rsy_ok {v : xV} {f : Nat → Nat} {n lim : Nat} (h1 : vS v ≤ 4) (h2 : vK v ≤ 5) : ∀ k p l l' z, rsy v f n lim k p l = .inr (l', z) → (∀ x, x ∈ l → x < vS v ∨ (8 ≤ x ∧ x < 8 + vK v)) → l.length ≤ 3 → (∀ x, x ∈ l' → x < vS v ∨ (8 ≤ x ∧ x < 8 + vK v)) ∧ l'.length ≤ 3 ∧ isMk (tk f n lim z) 59 = true
  | 0, _, _, _, _, h, _, _ => by simp [rsy] at h
  | k + 1, p, l, l', z, h, hl, hl3 => by
    simp only [rsy] at h
    split at h
    · rename_i q
      simp only [Sum.inr.injEq, Prod.mk.injEq] at h
      obtain ⟨rfl, rfl⟩ := h
      exact ⟨hl, hl3, q⟩
    · split at h
      · cases h
      · split at h
        · cases h
        · rename_i hn hne
          split at h
          · cases h
          · rename_i hl4
            obtain ⟨c, hc, hc2⟩ := vfind_m hne h1 h2
            have := vfind_s hc h1 h2 hc2
            rw [hc, n_cl (by omega)] at h
            refine rsy_ok h1 h2 k _ _ l' z h (fun x hx => ?_) (by simp; omega)
            rcases List.mem_append.mp hx with q | q
            · exact hl x q
            · rw [List.mem_singleton.mp q]; exact this
theorem rln_ok3 {v : xV} {f : Nat → Nat} {n lim p k z : Nat} {l : List Nat} (h1 : vS v ≤ 4) (h2 : vK v ≤ 5) (h : rln v f n lim p = .inr ((k, l), z)) : k < vK v ∧ (∀ x, x ∈ l → x < vS v ∨ (8 ≤ x ∧ x < 8 + vK v)) ∧ l.length ≤ 3 ∧ isMk (tk f n lim z) 59 = true := by
  unfold rln at h
  split at h
  · cases h
  · split at h
    · cases h
    · rename_i hna h8
      split at h
      · cases h
      · rename_i l2 q hr
        simp only [Sum.inr.injEq, Prod.mk.injEq] at h
        obtain ⟨⟨rfl, rfl⟩, rfl⟩ := h
        obtain ⟨c, hc, hc2⟩ := vfind_m (v := v) (w := lN (tk f n lim (tk f n lim p).2.2.1).2.2.2) (fun e => h8 (by rw [e]; decide)) h1 h2
        have := vfind_s hc h1 h2 hc2
        rw [hc, c_lt 8 (by omega) (by decide)] at h8
        rw [hc, n_cl (by omega)]
        exact ⟨by omega, rsy_ok h1 h2 4 _ [] _ _ hr (fun x hx => by cases hx) (by decide)⟩
def WSI : Int64 := 1936287598
def WKI : Int64 := 1802071652
def WRU : Int64 := 1920298085
def vapp (v : xV) (k : Nat) (l : List Nat) : xV := vadd v k l.length (l.getD 0 0) (l.getD 1 0) (l.getD 2 0)
/-- a line of a grammar: a FAULT and its PLACE, or what is so then, and where the next one begins -/
def gln (v : xV) (f : Nat → Nat) (n lim p : Nat) : (Nat × Nat) ⊕ (xV × Nat) :=
  if isWd (tk f n lim p) WSI then (if vS v = 4 then .inl (4, (tk f n lim p).2.1) else nln v f n lim p true)
  else if isWd (tk f n lim p) WKI then (if vK v = 5 then .inl (4, (tk f n lim p).2.1) else nln v f n lim p false)
  else if isWd (tk f n lim p) WRU = false then .inl (1, (tk f n lim p).2.1)
  else if vR v = 10 then .inl (4, (tk f n lim p).2.1)
  else match rln v f n lim p with
    | .inl e => .inl e
    | .inr ((k, l), z) => .inr (vapp v k l, (tk f n lim z).2.2.1)
theorem gln_r {v : xV} {f : Nat → Nat} {n lim p : Nat} (h1 : ¬ isWd (tk f n lim p) WSI = true) (h2 : ¬ isWd (tk f n lim p) WKI = true) (h3 : ¬ isWd (tk f n lim p) WRU = false) (h4 : vR v ≠ 10) :
    gln v f n lim p = match rln v f n lim p with
    | .inl e => .inl e
    | .inr ((k, l), z) => .inr (vapp v k l, (tk f n lim z).2.2.1) := by
  unfold gln
  rw [if_neg h1, if_neg h2, if_neg h3, if_neg h4]
theorem row_sym {A : xH} {c o k t : Nat} {l : List Nat} (h : rowIs A c o k l) (hl : ∀ x, x ∈ l → x < 2 ^ 31) (ht : t < 3) : symN (xi A c (o + 2 + t)) = l.getD t 0 := by
  rw [h.2.2 t ht]
  by_cases e : t < l.length
  · rw [dif_pos e]
    unfold symN
    rw [n_cl (hl _ (List.getElem_mem e))]
    simp [List.getD, List.getElem?_eq_getElem e]
  · rw [dif_neg e]
    simp [List.getD, List.getElem?_eq_none (Nat.not_lt.mp e)]
    decide
theorem row_add {A : xH} {c o k : Nat} {l : List Nat} {v : xV} (h : rowIs A c o k l) (hk : k < vK v) (hl : ∀ x, x ∈ l → x < vS v ∨ (8 ≤ x ∧ x < 8 + vK v)) (h3 : l.length ≤ 3) : addOK v (xi A c o) (xi A c (o + 1)) (xi A c (o + 2)) (xi A c (o + 3)) (xi A c (o + 4)) := by
  have e : ∀ t, t < 3 → t < l.length → symI v (xi A c (o + 2 + t)) := fun t a b => by
    rw [h.2.2 t a, dif_pos b]
    exact ⟨_, rfl, hl _ (List.getElem_mem b)⟩
  exact ⟨⟨k, h.1, hk⟩, l.length, h.2.1, h3, fun a => e 0 (by omega) a, fun a => e 1 (by omega) a, fun a => e 2 (by omega) a⟩
def f_X5_grammarLine (q m : Nat) (A : xH) (P : xP) : Prop := q = 3 ∧ ∃ f n lim p v, cT A f n lim p ∧ isM A m v ∧ 8 ≤ m ∧ GL1 m A P (gln v f n lim p) ∧ GL2 m A P f n lim (gln v f n lim p)
theorem con_X5_grammarLine (l : Launch) : xCon l yX5_grammarLine cX5_grammarLine 2 (some .boolean) 4 93 xN xN 0 xFT xFT (w_RR f_X5_grammarLine) := by
  refine m_X5_grammarLine ?_
  rintro q m A P ⟨rfl, f, n, lim, p, v, hc, hM, hm, h1, h2⟩
  have hmc := hM.1.1.1
  have ho := cT_ok hc
  have ht := hc.2.2.2.2
  obtain ⟨w1, w2, w3, w4, w5⟩ := hM.1.2.1
  obtain ⟨s0, s1, s2, s4⟩ := hM.1.2.2.1
  simp only [k_X5_grammarLine_0, k_X5_grammarLine_35, k_X5_grammarLine_71, k_X5_grammarLine_155, k_X5_grammarLine_156, f_X4_appendRule, f_X5_nameLine, w_RI, w_RIIIII, w_RJ, w_RR, w_RRI, x_aload, x_cv5, x_getI, x_icmp_lt, x_if_eq, x_if_ne, x_push, x_zret, y_cv1, y_cv2, y_getF, y_iald, xFT, xbool0, xbool1, Nat.reduceAdd, Nat.zero_add, xgl_0, xgl_s, xgl_n, xst_0, xst_1n, xst_1i, xst_1r, xst_1l, xst_s, set_0, set_s, true_and, and_true, xres, xcat_nil, xcat_i, xcat_r, xcat_l, Nat.add_zero, xble0, xble1, xble2, xble3, xble4, xble5, xble6, xble7, xble8, word_T ht ho, fail_L 1 ht, fail_L 4 ht, bI_t, ne_eq, hmc, s0, s1, s2, c_lt 4 (c := vS v) (by omega) (by decide), c_lt 5 (c := vK v) (by omega) (by decide), c_lt 10 (c := vR v) (by omega) (by decide), f_X5_nameLine, show (1936287598 : Int64) = WSI from rfl, show (1802071652 : Int64) = WKI from rfl, show (1920298085 : Int64) = WRU from rfl]
  refine ⟨fun a => ⟨fun b => ⟨fun c => ⟨fun d => ?_, fun d => ?_⟩, fun c => ?_⟩, fun b => ⟨fun c => ?_, fun c => ?_⟩⟩, fun a => ⟨fun b => ?_, fun b => ?_⟩⟩
  · have hr := gln_r (v := v) (f := f) (n := n) (lim := lim) (p := p) (by rw [a]; decide) (by rw [b]; decide) c (by omega)
    refine ⟨rfl, f, n, lim, p, v, hc, hM, hm, fun B e d2 he hB b1 b2 => ?_, fun B k l z he hB hrow h3 hcB => ?_⟩
    · simp only [k_X5_grammarLine_0, k_X5_grammarLine_35, k_X5_grammarLine_71, k_X5_grammarLine_155, k_X5_grammarLine_156, f_X4_appendRule, f_X5_nameLine, w_RI, w_RIIIII, w_RJ, w_RR, w_RRI, x_aload, x_cv5, x_getI, x_icmp_lt, x_if_eq, x_if_ne, x_push, x_zret, y_cv1, y_cv2, y_getF, y_iald, xFT, xbool0, xbool1, Nat.reduceAdd, Nat.zero_add, xgl_0, xgl_s, xgl_n, xst_0, xst_1n, xst_1i, xst_1r, xst_1l, xst_s, set_0, set_s, true_and, and_true, xres, xcat_nil, xcat_i, xcat_r, xcat_l, Nat.add_zero, xble0, xble1, xble2, xble3, xble4, xble5, xble6, xble7, xble8, i00, not_true_eq_false, false_implies, true_implies]
      rw [he] at hr
      exact h1 B e d2 hr (gS_pS hB) b1 b2
    · obtain ⟨g1, g2, g3, g4⟩ := rln_ok3 w1 w2 he
      have hMB : isM B m v := isM_off hM hB.1 (by omega)
      have hadd := row_add hrow g1 g2 g3
      have hsm : ∀ x, x ∈ l → x < 2 ^ 31 := fun x hx => by have := g2 x hx; omega
      have y2 := row_sym (t := 0) hrow hsm (by omega)
      have y3 := row_sym (t := 1) hrow hsm (by omega)
      have y4 := row_sym (t := 2) hrow hsm (by omega)
      have y0 : symN (xi B 4 0) = k := by rw [hrow.1]; exact n_cl (by omega)
      have y1 : symN (xi B 4 1) = l.length := by rw [hrow.2.1]; exact n_cl (by omega)
      simp only [Nat.zero_add, Nat.reduceAdd] at hadd y2 y3 y4
      simp only [k_X5_grammarLine_0, k_X5_grammarLine_35, k_X5_grammarLine_71, k_X5_grammarLine_155, k_X5_grammarLine_156, f_X4_appendRule, f_X5_nameLine, w_RI, w_RIIIII, w_RJ, w_RR, w_RRI, x_aload, x_cv5, x_getI, x_icmp_lt, x_if_eq, x_if_ne, x_push, x_zret, y_cv1, y_cv2, y_getF, y_iald, xFT, xbool0, xbool1, Nat.reduceAdd, Nat.zero_add, xgl_0, xgl_s, xgl_n, xst_0, xst_1n, xst_1i, xst_1r, xst_1l, xst_s, set_0, set_s, true_and, and_true, xres, xcat_nil, xcat_i, xcat_r, xcat_l, Nat.add_zero, xble0, xble1, xble2, xble3, xble4, xble5, xble6, xble7, xble8, i10, not_true_eq_false, not_false_eq_true, false_implies, true_implies, cl0, cl1, show Int32.toNatClampNeg 2 = 2 from rfl, show Int32.toNatClampNeg 3 = 3 from rfl, show Int32.toNatClampNeg 4 = 4 from rfl, f_X4_appendRule, hadd, y0, y1, y2, y3, y4, i00]
      refine ⟨vpl (by decide) (by decide), vpl (by decide) (by decide), vpl (by decide) (by decide), vpl (by decide) (by decide), vpl (by decide) (by decide), v, hMB, ?_⟩
      rw [he] at hr
      refine ⟨fun _ => ⟨fun q => by omega, fun q D hD ho => ?_⟩, fun q => absurd hadd q⟩
      exact h2 D _ _ hr (gS_tr (gS_pS hB) (gS_off ho hm)) (fun j => (xoff_i ho (by omega)).trans (h3 j)) hD (cT_off hcB ho (by omega))
  · have : vR v = 10 := by omega
    exact GL1_flt h1 gS_rf (by unfold gln; rw [if_neg (by rw [a]; decide), if_neg (by rw [b]; decide), if_neg c, if_pos this])
  · exact GL1_flt h1 gS_rf (by unfold gln; rw [if_neg (by rw [a]; decide), if_neg (by rw [b]; decide), if_pos c])
  · have hr : gln v f n lim p = nln v f n lim p false := by unfold gln; rw [if_neg (by rw [a]; decide), if_pos (by simpa using b), if_neg (by omega)]
    rw [hr] at h1 h2
    exact ⟨f, n, lim, p, v, false, rfl, hc, hM, hm, fun q => (by cases q), fun _ => c, fun B e d he hB b1 b2 => ⟨xbool0, h1 B e d he hB b1 b2⟩, fun B v' z he hB h3 hv hcB => ⟨xbool1, h2 B v' z he hB h3 hv hcB⟩⟩
  · exact GL1_flt h1 gS_rf (by unfold gln; rw [if_neg (by rw [a]; decide), if_pos (by simpa using b), if_pos (by omega)])
  · have hr : gln v f n lim p = nln v f n lim p true := by unfold gln; rw [if_pos (by simpa using a), if_neg (by omega)]
    rw [hr] at h1 h2
    exact ⟨f, n, lim, p, v, true, rfl, hc, hM, hm, fun _ => b, fun q => (by cases q), fun B e d he hB b1 b2 => ⟨xbool0, h1 B e d he hB b1 b2⟩, fun B v' z he hB h3 hv hcB => ⟨xbool1, h2 B v' z he hB h3 hv hcB⟩⟩
  · exact GL1_flt h1 gS_rf (by unfold gln; rw [if_pos (by simpa using a), if_pos (by omega)])

