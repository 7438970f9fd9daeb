theorem d_X5_readGrammar_0 : decode cX5_readGrammar 0 = .ok (.aload_n 0, 1) := by decide +kernel
theorem d_X5_readGrammar_1 : decode cX5_readGrammar 1 = .ok (.sipush 900, 3) := by decide +kernel
theorem d_X5_readGrammar_4 : decode cX5_readGrammar 4 = .ok (.invokevirtual 42, 3) := by decide +kernel
theorem d_X5_readGrammar_7 : decode cX5_readGrammar 7 = .ok (.iconst 0, 1) := by decide +kernel
theorem d_X5_readGrammar_8 : decode cX5_readGrammar 8 = .ok (.istore_n 2, 1) := by decide +kernel
theorem d_X5_readGrammar_9 : decode cX5_readGrammar 9 = .ok (.iload_n 2, 1) := by decide +kernel
theorem d_X5_readGrammar_10 : decode cX5_readGrammar 10 = .ok (.sipush 940, 3) := by decide +kernel
theorem d_X5_readGrammar_13 : decode cX5_readGrammar 13 = .ok (.if_icmp .gt 31, 3) := by decide +kernel
theorem d_X5_readGrammar_16 : decode cX5_readGrammar 16 = .ok (.aload_n 0, 1) := by decide +kernel
theorem d_X5_readGrammar_17 : decode cX5_readGrammar 17 = .ok (.getfield 22, 3) := by decide +kernel
theorem d_X5_readGrammar_20 : decode cX5_readGrammar 20 = .ok (.getfield 45, 3) := by decide +kernel
theorem d_X5_readGrammar_23 : decode cX5_readGrammar 23 = .ok (.ifCond .ne 5, 3) := by decide +kernel
theorem d_X5_readGrammar_26 : decode cX5_readGrammar 26 = .ok (.iload_n 2, 1) := by decide +kernel
theorem d_X5_readGrammar_27 : decode cX5_readGrammar 27 = .ok (.ireturn, 1) := by decide +kernel
theorem d_X5_readGrammar_28 : decode cX5_readGrammar 28 = .ok (.aload_n 0, 1) := by decide +kernel
theorem d_X5_readGrammar_29 : decode cX5_readGrammar 29 = .ok (.aload_n 1, 1) := by decide +kernel
theorem d_X5_readGrammar_30 : decode cX5_readGrammar 30 = .ok (.invokevirtual 48, 3) := by decide +kernel
theorem d_X5_readGrammar_33 : decode cX5_readGrammar 33 = .ok (.ifCond .ne 5, 3) := by decide +kernel
theorem d_X5_readGrammar_36 : decode cX5_readGrammar 36 = .ok (.iconst (-1), 1) := by decide +kernel
theorem d_X5_readGrammar_37 : decode cX5_readGrammar 37 = .ok (.ireturn, 1) := by decide +kernel
theorem d_X5_readGrammar_38 : decode cX5_readGrammar 38 = .ok (.iinc 2 1, 3) := by decide +kernel
theorem d_X5_readGrammar_41 : decode cX5_readGrammar 41 = .ok (.goto (-32), 3) := by decide +kernel
theorem d_X5_readGrammar_44 : decode cX5_readGrammar 44 = .ok (.iconst (-1), 1) := by decide +kernel
theorem d_X5_readGrammar_45 : decode cX5_readGrammar 45 = .ok (.ireturn, 1) := by decide +kernel
def k_X5_readGrammar_0 (P : xP) (C9 : xK) : xK := x_aload 0 (x_push (.int 900) (y_cv1 3 (w_RI f_X5_begin) (x_push (.int 0) (x_istore 2 (C9)))))
set_option maxRecDepth 20000 in
theorem t_X5_readGrammar_0 {p : Program} {l : Launch} {e : Env} {s : State} {m : MethodId} {args : Array Value} {below : List Frame} {meth : Method} {c : Code} {g : xG} (X : xX p s m args c meth cX5_readGrammar RX5 3 g) (hr : meth.sig.returnType = (some .int)) {P : xP} {C9 : xK} (h9 : xAt p l e { frames := 5, cells := 0, slots := 0, locals := 114 } s m args below meth c g 3 xFT xN 0 0 (MQ below (xQc g xFT xN P) args s 0 0 (xFr g)) C9 9) : xAt p l e { frames := 5, cells := 0, slots := 0, locals := 114 } s m args below meth c g 3 xFT xN 0 0 (MQ below (xQc g xFT xN P) args s 0 0 (xFr g)) (k_X5_readGrammar_0 P C9) 0 := by
  unfold k_X5_readGrammar_0
  refine r_aload_n (pc := 0) X d_X5_readGrammar_0 fn0 ?_
  refine r_sipush (pc := 1) X d_X5_readGrammar_1 (by decide +kernel) ?_
  refine s_cv1 (pc := 4) (ci := 5) X xok5 (by decide +kernel) ob_3 rfl (con_X5_begin l) mf_X5_begin ml_RX5_42 (by decide +kernel) (by decide +kernel) d_X5_readGrammar_4 ?_
  refine r_iconst (pc := 7) X d_X5_readGrammar_7 (by decide +kernel) ?_
  refine r_istore_n (pc := 8) X d_X5_readGrammar_8 fn2 (by decide +kernel) ?_
  exact h9
def k_X5_readGrammar_9 (P : xP) (C9 : xK) : xK := x_iload 2 (x_push (.int 940) (x_icmp_gt (x_push (.int (-1)) (x_iret P)) (x_aload 0 (y_getF 3 1 (y_getI 1 4 (x_if_ne (x_aload 0 (x_aload 1 (y_cv1 3 (w_RR f_X5_grammarLine) (x_if_ne (x_iinc 2 1 (C9)) (x_push (.int (-1)) (x_iret P)))))) (x_iload 2 (x_iret P))))))))
set_option maxRecDepth 20000 in
theorem t_X5_readGrammar_9 {p : Program} {l : Launch} {e : Env} {s : State} {m : MethodId} {args : Array Value} {below : List Frame} {meth : Method} {c : Code} {g : xG} (X : xX p s m args c meth cX5_readGrammar RX5 3 g) (hr : meth.sig.returnType = (some .int)) {P : xP} {C9 : xK} (h9 : xAt p l e { frames := 5, cells := 0, slots := 0, locals := 114 } s m args below meth c g 3 xFT xN 0 0 (MQ below (xQc g xFT xN P) args s 0 0 (xFr g)) C9 9) : xAt p l e { frames := 5, cells := 0, slots := 0, locals := 114 } s m args below meth c g 3 xFT xN 0 0 (MQ below (xQc g xFT xN P) args s 0 0 (xFr g)) (k_X5_readGrammar_9 P C9) 9 := by
  unfold k_X5_readGrammar_9
  refine r_iload_n (pc := 9) X d_X5_readGrammar_9 fn2 ?_
  refine r_sipush (pc := 10) X d_X5_readGrammar_10 (by decide +kernel) ?_
  refine r_icmp_gt (pc := 13) (tgt := 44) X d_X5_readGrammar_13 (by decide +kernel) ?_ ?_
  · refine r_iconst (pc := 44) X d_X5_readGrammar_44 (by decide +kernel) ?_
    exact r_iret (pc := 45) X hr d_X5_readGrammar_45
  · refine r_aload_n (pc := 16) X d_X5_readGrammar_16 fn0 ?_
    refine s_getF (pc := 17) (ci := 5) (k := 0) X xok5 (by decide +kernel) ob_3 trivial ly_3_0 (by decide +kernel) fl_RX5_22 d_X5_readGrammar_17 ?_
    refine s_getI (pc := 20) (ci := 9) X xok9 (by decide +kernel) ob_1 (by decide +kernel) fl_RX5_45 d_X5_readGrammar_20 ?_
    refine r_if_ne (pc := 23) (tgt := 28) X d_X5_readGrammar_23 (by decide +kernel) ?_ ?_
    · refine r_aload_n (pc := 28) X d_X5_readGrammar_28 fn0 ?_
      refine r_aload_n (pc := 29) X d_X5_readGrammar_29 fn1 ?_
      refine s_cv1 (pc := 30) (ci := 5) X xok5 (by decide +kernel) ob_3 rfl (con_X5_grammarLine l) mf_X5_grammarLine ml_RX5_48 (by decide +kernel) (by decide +kernel) d_X5_readGrammar_30 ?_
      refine r_if_ne (pc := 33) (tgt := 38) X d_X5_readGrammar_33 (by decide +kernel) ?_ ?_
      · refine r_iinc (pc := 38) X d_X5_readGrammar_38 (by decide +kernel) (by decide +kernel) ?_
        refine r_goto (pc := 41) (tgt := 9) X d_X5_readGrammar_41 (by decide +kernel) ?_
        exact h9
      · refine r_iconst (pc := 36) X d_X5_readGrammar_36 (by decide +kernel) ?_
        exact r_iret (pc := 37) X hr d_X5_readGrammar_37
    · refine r_iload_n (pc := 26) X d_X5_readGrammar_26 fn2 ?_
      exact r_iret (pc := 27) X hr d_X5_readGrammar_27
set_option maxRecDepth 20000 in
theorem m_X5_readGrammar {l : Launch} {f : Nat → Nat → xH → xP → Prop}  {I9 : Nat → Nat → xH → xP → xM → xK}
    (v0 : ∀ (a0 : Nat) (a1 : Nat) (A : xH) (P : xP), f a0 a1 A P → k_X5_readGrammar_0 P (xE (I9 a0 a1 A P)) [some (.ref a0), some (.ref a1), none] [] A)
    (v9 : ∀ (a0 : Nat) (a1 : Nat) (A : xH) (P : xP), f a0 a1 A P → ∀ (μ : xM) (L : xL) (st : List Value) (B : xH), I9 a0 a1 A P μ L st B → k_X5_readGrammar_9 P (xB (I9 a0 a1 A P) μ) L st B) : xCon l yX5_readGrammar cX5_readGrammar 3 (some .int) 5 114 xN xN 0 xFT xFT (w_RR f) := by
  refine xc_RR (plainFor_of_name pn_RX5) (by decide +kernel) (fun p e s m args below meth c g a0 a1 A P h X hr _ => ?_)
  have h9 := x_loop1 (p := p) (l := l) (e := e) (R := { frames := 5, cells := 0, slots := 0, locals := 114 }) (s := s) (m := m) (args := args) (below := below) (meth := meth) (c := c) (g := g) (nL := 3) (F := xFT) (n := xN) (cells := 0) (slots := 0) (Q := MQ below (xQc g xFT xN P) args s 0 0 (xFr g)) (I := I9 a0 a1 A P) (pc1 := 9) (fun μ i9 => xAt_mono (t_X5_readGrammar_9 (P := P) X hr i9) (v9 a0 a1 A P h μ))
  exact ⟨_, v0 a0 a1 A P h, t_X5_readGrammar_0 X hr h9⟩
/-- a grammar's lines: fuel, place, what is so, how many lines -/
def gram (f : Nat → Nat) (n lim : Nat) : Nat → Nat → xV → Nat → (Nat × Nat) ⊕ (xV × Nat)
  | 0, _, _, _ => .inl (0, 0)
  | g + 1, p, v, k => if (tk f n lim p).1 = 0 then .inr (v, k) else match gln v f n lim p with
    | .inl e => .inl e
    | .inr (v', z) => gram f n lim g z v' (k + 1)
theorem gram_s {f : Nat → Nat} {n lim g p : Nat} {v : xV} {k : Nat} : gram f n lim (g + 1) p v k = if (tk f n lim p).1 = 0 then .inr (v, k) else match gln v f n lim p with
    | .inl e => .inl e
    | .inr (v', z) => gram f n lim g z v' (k + 1) := rfl
/-- reader, tape's limit and Model m alone are otherwise -/
def hS (m : Nat) (A B : xH) : Prop := (∀ c, (c < 1 ∨ 4 < c) → (c < m ∨ m + 9 < c) → B.1 c = A.1 c ∧ B.2.1 c = A.2.1 c) ∧ B.2.2 = A.2.2 ∧ (∀ k, xi B 2 k = xi A 2 k) ∧ xi B 1 1 = xi A 1 1
theorem hS_tr {m : Nat} {A B C : xH} (h : hS m A B) (h2 : hS m B C) : hS m A C :=
  ⟨fun c a b => ⟨(h2.1 c a b).1.trans (h.1 c a b).1, (h2.1 c a b).2.trans (h.1 c a b).2⟩, h2.2.1.trans h.2.1, fun k => (h2.2.2.1 k).trans (h.2.2.1 k), h2.2.2.2.trans h.2.2.2⟩
theorem hS_gS {m : Nat} {A B : xH} (h : gS m A B) : hS m A B := ⟨h.1, h.2.1, h.2.2.1, h.2.2.2 1 (by omega) (by omega) (by omega)⟩
def RG1 (m : Nat) (A : xH) (P : xP) (r : (Nat × Nat) ⊕ (xV × Nat)) : Prop := ∀ B e d, r = .inl (e, d) → hS m A B → xi B 3 3 = nI e → xi B 3 4 = nI d → P (some (.int (-1))) B
def RG2 (m : Nat) (A : xH) (P : xP) (r : (Nat × Nat) ⊕ (xV × Nat)) : Prop := ∀ B v k, r = .inr (v, k) → hS m A B → xi B 3 3 = 0 → xi B 3 4 = 0 → isM B m v → P (some (.int (nI k))) B
def f_X5_readGrammar (q m : Nat) (A : xH) (P : xP) : Prop := q = 3 ∧ ∃ f n v, isT A f n ∧ isM A m v ∧ 8 ≤ m ∧ RG1 m A P (gram f n 900 941 0 v 0) ∧ RG2 m A P (gram f n 900 941 0 v 0)
/-- a text is opened -/
theorem open_T {A : xH} {P : xP} {f : Nat → Nat} {n lim : Nat} (hT : isT A f n) (hl : lim < 2 ^ 31) (hP : ∀ B, xoff A B 1 4 → (∀ k, xi B 2 k = xi A 2 k) → xi B 1 1 = xi A 1 1 → (∀ j, j ≠ 3 → j ≠ 4 → xi B 3 j = xi A 3 j) → xi B 3 3 = 0 → xi B 3 4 = 0 → cT B f n lim 0 → P none B) : f_X5_begin 3 (nI lim) A P := by
  unfold f_X5_begin
  simp only [k_X5_begin_0, f_X9_open, w_RI, x_aload, x_iload, x_push, x_vret, y_cv1, y_getF, y_putI, xFT, xbool0, xbool1, Nat.reduceAdd, Nat.zero_add, xgl_0, xgl_s, xgl_n, xst_0, xst_1n, xst_1i, xst_1r, xst_1l, xst_s, set_0, set_s, true_and, and_true, xres, xcat_nil, xcat_i, xcat_r, xcat_l, Nat.add_zero, xble0, xble1, xble2, xble3, xble4, xble5, xble6, xble7, xble8, k_X9_open_0, w_R, x_aload, x_iload, x_push, x_vret, y_cv0, y_putI, xFT, xbool0, xbool1, Nat.reduceAdd, Nat.zero_add, xgl_0, xgl_s, xgl_n, xst_0, xst_1n, xst_1i, xst_1r, xst_1l, xst_s, set_0, set_s, true_and, and_true, xres, xcat_nil, xcat_i, xcat_r, xcat_l, Nat.add_zero, xble0, xble1, xble2, xble3, xble4, xble5, xble6, xble7, xble8]
  refine ⟨rfl, f, n, lim, 0, isT_si (isT_si ⟨?_, hT.2.1, fun j hj => ?_⟩ (by omega)) (by omega), ?_, hl, Nat.zero_le _, si_eq, fun B hS ht => ?_⟩
  · rw [si_ne (by omega), si_ne (by omega)]; exact hT.1
  · rw [si_ne (by omega), si_ne (by omega)]; exact hT.2.2 j hj
  · rw [si_ne (by omega), si_eq]
  · have hx : xoff A (xsi (xsi (xsi (xsi A 3 3 0) 3 4 0) 1 2 (nI lim)) 1 3 0) 1 4 := xoff_si (xoff_si (xoff_si (xoff_si xoff_rf (by omega) (by omega)) (by omega) (by omega)) (by omega) (by omega)) (by omega) (by omega)
    have e3 : ∀ j, xi B 3 j = xi (xsi (xsi (xsi (xsi A 3 3 0) 3 4 0) 1 2 (nI lim)) 1 3 0) 3 j := fun j => xoff_i hS.1 (by omega)
    refine hP B (xoff_tr hx (xoff_wide hS.1 (by omega) (by omega))) (fun k => ?_) ?_ (fun j a b => ?_) ?_ ?_ ⟨isT_aS (isT_si (isT_si ⟨?_, hT.2.1, fun j hj => ?_⟩ (by omega)) (by omega)) hS, ?_, hl, Nat.zero_le _, ht⟩
    · rw [xoff_i hS.1 (by omega), si_ne (by omega), si_ne (by omega), si_ne (by omega), si_ne (by omega)]
    · rw [hS.2 1 (by omega) (by omega) (by omega), si_ne (by omega), si_ne (by omega), si_ne (by omega), si_ne (by omega)]
    · rw [e3, si_ne (by omega), si_ne (by omega), si_ne (by omega), si_ne (by omega)]
    · rw [e3, si_ne (by omega), si_ne (by omega), si_ne (by omega), si_eq]
    · rw [e3, si_ne (by omega), si_ne (by omega), si_eq]
    · rw [si_ne (by omega), si_ne (by omega)]; exact hT.1
    · rw [si_ne (by omega), si_ne (by omega)]; exact hT.2.2 j hj
    · rw [hS.2 2 (by omega) (by omega) (by omega), si_ne (by omega), si_eq]
def rgI (m : Nat) (A : xH) (P : xP) : xM → xK := fun μ L st B => ∃ f n v0 v p k, 8 ≤ m ∧ RG1 m A P (gram f n 900 941 0 v0 0) ∧ RG2 m A P (gram f n 900 941 0 v0 0) ∧ gram f n 900 941 0 v0 0 = gram f n 900 (941 - k) p v k ∧ k ≤ 941 ∧ cT B f n 900 p ∧ isM B m v ∧ hS m A B ∧ xi B 3 3 = 0 ∧ xi B 3 4 = 0 ∧ st = [] ∧ L = [some (.ref 3), some (.ref m), some (.int (nI k))] ∧ μ = (941 - k, 0, 0)
theorem con_X5_readGrammar (l : Launch) : xCon l yX5_readGrammar cX5_readGrammar 3 (some .int) 5 114 xN xN 0 xFT xFT (w_RR f_X5_readGrammar) := by
  refine m_X5_readGrammar (I9 := fun q m A P => rgI m A P) ?_ ?_
  · rintro q m A P ⟨rfl, f, n, v, hT, hM, hm, h1, h2⟩
    simp only [k_X5_readGrammar_0, k_X5_readGrammar_9, w_RI, w_RR, x_aload, x_icmp_gt, x_if_ne, x_iinc, x_iload, x_iret, x_istore, x_push, y_cv1, y_getF, y_getI, xFT, xbool0, xbool1, Nat.reduceAdd, Nat.zero_add, xgl_0, xgl_s, xgl_n, xst_0, xst_1n, xst_1i, xst_1r, xst_1l, xst_s, set_0, set_s, true_and, and_true, xres, xcat_nil, xcat_i, xcat_r, xcat_l, Nat.add_zero, xble0, xble1, xble2, xble3, xble4, xble5, xble6, xble7, xble8]
    refine open_T (lim := 900) hT (by decide) fun B ho h2' h11 h3 h33 h34 hc => ?_
    simp only [k_X5_readGrammar_0, k_X5_readGrammar_9, w_RI, w_RR, x_aload, x_icmp_gt, x_if_ne, x_iinc, x_iload, x_iret, x_istore, x_push, y_cv1, y_getF, y_getI, xFT, xbool0, xbool1, Nat.reduceAdd, Nat.zero_add, xgl_0, xgl_s, xgl_n, xst_0, xst_1n, xst_1i, xst_1r, xst_1l, xst_s, set_0, set_s, true_and, and_true, xres, xcat_nil, xcat_i, xcat_r, xcat_l, Nat.add_zero, xble0, xble1, xble2, xble3, xble4, xble5, xble6, xble7, xble8]
    exact xE0 (941, 0, 0) ⟨f, n, v, v, 0, 0, hm, h1, h2, rfl, by omega, hc, isM_off hM ho (by omega), ⟨fun c a _ => ho.1 c (by omega), ho.2, h2', h11⟩, h33, h34, rfl, rfl, rfl⟩
  · rintro q m A P - μ L st B ⟨f, n, v0, v, p, k, hm, h1, h2, he, hk, hc, hM, hS, h33, h34, rfl, rfl, rfl⟩
    have ho := cT_ok hc
    have ht := hc.2.2.2.2
    simp only [k_X5_readGrammar_0, k_X5_readGrammar_9, w_RI, w_RR, x_aload, x_icmp_gt, x_if_ne, x_iinc, x_iload, x_iret, x_istore, x_push, y_cv1, y_getF, y_getI, xFT, xbool0, xbool1, Nat.reduceAdd, Nat.zero_add, xgl_0, xgl_s, xgl_n, xst_0, xst_1n, xst_1i, xst_1r, xst_1l, xst_s, set_0, set_s, true_and, and_true, xres, xcat_nil, xcat_i, xcat_r, xcat_l, Nat.add_zero, xble0, xble1, xble2, xble3, xble4, xble5, xble6, xble7, xble8, c_gt 940 (c := k) (by omega) (by decide), ht.1, c_eq 0 (c := (tk f n 900 p).1) (by have := ho.1; omega) (by decide), ne_eq, f_X5_grammarLine]
    refine ⟨fun a => ?_, fun a => ⟨fun b => ⟨f, n, 900, p, v, hc, hM, hm, fun D e d hg hD d3 d4 => ?_, fun D v' z hg hD d3 hMD hcD => ?_⟩, fun b => ?_⟩⟩
    · have : k = 941 := by omega
      subst this
      exact h1 B 0 0 he hS h33 h34
    · have hk2 : 941 - k = (940 - k) + 1 := by omega
      rw [hk2, gram_s (g := 940 - k), if_neg b, hg] at he
      simp only [k_X5_readGrammar_0, k_X5_readGrammar_9, w_RI, w_RR, x_aload, x_icmp_gt, x_if_ne, x_iinc, x_iload, x_iret, x_istore, x_push, y_cv1, y_getF, y_getI, xFT, xbool0, xbool1, Nat.reduceAdd, Nat.zero_add, xgl_0, xgl_s, xgl_n, xst_0, xst_1n, xst_1i, xst_1r, xst_1l, xst_s, set_0, set_s, true_and, and_true, xres, xcat_nil, xcat_i, xcat_r, xcat_l, Nat.add_zero, xble0, xble1, xble2, xble3, xble4, xble5, xble6, xble7, xble8, i00, not_true_eq_false, false_implies, true_implies]
      exact h1 D e d he (hS_tr hS (hS_gS hD)) d3 d4
    · have hk2 : 941 - k = (940 - k) + 1 := by omega
      rw [hk2, gram_s (g := 940 - k), if_neg b, hg] at he
      simp only [k_X5_readGrammar_0, k_X5_readGrammar_9, w_RI, w_RR, x_aload, x_icmp_gt, x_if_ne, x_iinc, x_iload, x_iret, x_istore, x_push, y_cv1, y_getF, y_getI, xFT, xbool0, xbool1, Nat.reduceAdd, Nat.zero_add, xgl_0, xgl_s, xgl_n, xst_0, xst_1n, xst_1i, xst_1r, xst_1l, xst_s, set_0, set_s, true_and, and_true, xres, xcat_nil, xcat_i, xcat_r, xcat_l, Nat.add_zero, xble0, xble1, xble2, xble3, xble4, xble5, xble6, xble7, xble8, i10, not_false_eq_true, false_implies, true_implies, nI_1]
      refine xB1 (b := 941 - (k + 1)) (by omega) ⟨f, n, v0, v', z, k + 1, hm, h1, h2, ?_, by omega, hcD, hMD, hS_tr hS (hS_gS hD), (d3 3).trans h33, (d3 4).trans h34, rfl, rfl, rfl⟩
      rw [he, show 941 - (k + 1) = 940 - k by omega]
    · have hk2 : 941 - k = (940 - k) + 1 := by omega
      rw [hk2, gram_s (g := 940 - k), if_pos b] at he
      exact h2 B v k he hS h33 h34 hM

