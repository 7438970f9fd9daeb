theorem d_X12_other_0 : decode cX12_other 0 = .ok (.aload_n 0, 1) := by decide +kernel
theorem d_X12_other_1 : decode cX12_other 1 = .ok (.iconst 0, 1) := by decide +kernel
theorem d_X12_other_2 : decode cX12_other 2 = .ok (.putfield 312, 3) := by decide +kernel
theorem d_X12_other_5 : decode cX12_other 5 = .ok (.aload_n 0, 1) := by decide +kernel
theorem d_X12_other_6 : decode cX12_other 6 = .ok (.iconst 0, 1) := by decide +kernel
theorem d_X12_other_7 : decode cX12_other 7 = .ok (.putfield 316, 3) := by decide +kernel
theorem d_X12_other_10 : decode cX12_other 10 = .ok (.aload_n 0, 1) := by decide +kernel
theorem d_X12_other_11 : decode cX12_other 11 = .ok (.iconst 0, 1) := by decide +kernel
theorem d_X12_other_12 : decode cX12_other 12 = .ok (.putfield 319, 3) := by decide +kernel
theorem d_X12_other_15 : decode cX12_other 15 = .ok (.aload_n 0, 1) := by decide +kernel
theorem d_X12_other_16 : decode cX12_other 16 = .ok (.iconst 0, 1) := by decide +kernel
theorem d_X12_other_17 : decode cX12_other 17 = .ok (.putfield 322, 3) := by decide +kernel
theorem d_X12_other_20 : decode cX12_other 20 = .ok (.return_, 1) := by decide +kernel
def k_X12_other_0 (P : xP) : xK := x_aload 0 (x_push (.int 0) (y_putZ 180 25 (x_aload 0 (x_push (.int 0) (y_putZ 180 26 (x_aload 0 (x_push (.int 0) (y_putZ 180 27 (x_aload 0 (x_push (.int 0) (y_putZ 180 28 (x_vret P))))))))))))
set_option maxRecDepth 20000 in
theorem t_X12_other_0 {p : Program} {l : Launch} {e : Env} {s : State} {m : MethodId} {args : Array Value} {below : List Frame} {meth : Method} {c : Code} {g : xG} (X : xX p s m args c meth cX12_other RX12 1 g) (hr : meth.sig.returnType = none) {P : xP} : xAt p l e { frames := 0, cells := 0, slots := 0, locals := 0 } s m args below meth c g 1 xFT xN 0 0 (MQ below (xQc g xFT xN P) args s 0 0 (xFr g)) (k_X12_other_0 P) 0 := by
  unfold k_X12_other_0
  refine r_aload_n (pc := 0) X d_X12_other_0 fn0 ?_
  refine r_iconst (pc := 1) X d_X12_other_1 (by decide +kernel) ?_
  refine s_putZ (pc := 2) (ci := 12) X xok12 (by decide +kernel) ob_180 (by decide +kernel) (by decide +kernel) (by decide +kernel) fl_RX12_312 d_X12_other_2 ?_
  refine r_aload_n (pc := 5) X d_X12_other_5 fn0 ?_
  refine r_iconst (pc := 6) X d_X12_other_6 (by decide +kernel) ?_
  refine s_putZ (pc := 7) (ci := 12) X xok12 (by decide +kernel) ob_180 (by decide +kernel) (by decide +kernel) (by decide +kernel) fl_RX12_316 d_X12_other_7 ?_
  refine r_aload_n (pc := 10) X d_X12_other_10 fn0 ?_
  refine r_iconst (pc := 11) X d_X12_other_11 (by decide +kernel) ?_
  refine s_putZ (pc := 12) (ci := 12) X xok12 (by decide +kernel) ob_180 (by decide +kernel) (by decide +kernel) (by decide +kernel) fl_RX12_319 d_X12_other_12 ?_
  refine r_aload_n (pc := 15) X d_X12_other_15 fn0 ?_
  refine r_iconst (pc := 16) X d_X12_other_16 (by decide +kernel) ?_
  refine s_putZ (pc := 17) (ci := 12) X xok12 (by decide +kernel) ob_180 (by decide +kernel) (by decide +kernel) (by decide +kernel) fl_RX12_322 d_X12_other_17 ?_
  exact r_vret (pc := 20) X hr d_X12_other_20
def f_X12_other (a0 : Nat) (A : xH) (P : xP) : Prop := k_X12_other_0 P [some (.ref a0)] [] A
set_option maxRecDepth 20000 in
theorem con_X12_other (l : Launch) : xCon l yX12_other cX12_other 1 none 0 0 xN xN 0 xFT xFT (w_R f_X12_other) :=
  xc_R (plainFor_of_name pn_RX12) (by decide +kernel) (fun p e s m args below meth c g a0 A P h X hr _ => ⟨_, h, t_X12_other_0 X hr⟩)
theorem d_X12_alone_0 : decode cX12_alone 0 = .ok (.iconst 0, 1) := by decide +kernel
theorem d_X12_alone_1 : decode cX12_alone 1 = .ok (.istore_n 1, 1) := by decide +kernel
theorem d_X12_alone_2 : decode cX12_alone 2 = .ok (.iload_n 1, 1) := by decide +kernel
theorem d_X12_alone_3 : decode cX12_alone 3 = .ok (.bipush 42, 2) := by decide +kernel
theorem d_X12_alone_5 : decode cX12_alone 5 = .ok (.if_icmp .ge 19, 3) := by decide +kernel
theorem d_X12_alone_8 : decode cX12_alone 8 = .ok (.aload_n 0, 1) := by decide +kernel
theorem d_X12_alone_9 : decode cX12_alone 9 = .ok (.getfield 30, 3) := by decide +kernel
theorem d_X12_alone_12 : decode cX12_alone 12 = .ok (.bipush 54, 2) := by decide +kernel
theorem d_X12_alone_14 : decode cX12_alone 14 = .ok (.iload_n 1, 1) := by decide +kernel
theorem d_X12_alone_15 : decode cX12_alone 15 = .ok (.iadd, 1) := by decide +kernel
theorem d_X12_alone_16 : decode cX12_alone 16 = .ok (.iload_n 1, 1) := by decide +kernel
theorem d_X12_alone_17 : decode cX12_alone 17 = .ok (.iastore, 1) := by decide +kernel
theorem d_X12_alone_18 : decode cX12_alone 18 = .ok (.iinc 1 1, 3) := by decide +kernel
theorem d_X12_alone_21 : decode cX12_alone 21 = .ok (.goto (-19), 3) := by decide +kernel
theorem d_X12_alone_24 : decode cX12_alone 24 = .ok (.aload_n 0, 1) := by decide +kernel
theorem d_X12_alone_25 : decode cX12_alone 25 = .ok (.invokevirtual 325, 3) := by decide +kernel
theorem d_X12_alone_28 : decode cX12_alone 28 = .ok (.return_, 1) := by decide +kernel
def k_X12_alone_0 (P : xP) (C2 : xK) : xK := x_push (.int 0) (x_istore 1 (C2))
set_option maxRecDepth 20000 in
theorem t_X12_alone_0 {p : Program} {l : Launch} {e : Env} {s : State} {m : MethodId} {args : Array Value} {below : List Frame} {meth : Method} {c : Code} {g : xG} (X : xX p s m args c meth cX12_alone RX12 2 g) (hr : meth.sig.returnType = none) {P : xP} {C2 : xK} (h2 : xAt p l e { frames := 1, cells := 0, slots := 0, locals := 20 } s m args below meth c g 2 xFT xN 0 0 (MQ below (xQc g xFT xN P) args s 0 0 (xFr g)) C2 2) : xAt p l e { frames := 1, cells := 0, slots := 0, locals := 20 } s m args below meth c g 2 xFT xN 0 0 (MQ below (xQc g xFT xN P) args s 0 0 (xFr g)) (k_X12_alone_0 P C2) 0 := by
  unfold k_X12_alone_0
  refine r_iconst (pc := 0) X d_X12_alone_0 (by decide +kernel) ?_
  refine r_istore_n (pc := 1) X d_X12_alone_1 fn1 (by decide +kernel) ?_
  exact h2
def k_X12_alone_2 (P : xP) (C2 : xK) : xK := x_iload 1 (x_push (.int 42) (x_icmp_ge (x_aload 0 (y_cv0 180 (w_R f_X12_other) (x_vret P))) (x_aload 0 (y_getF 180 182 (x_push (.int 54) (x_iload 1 (x_iadd (x_iload 1 (y_iast 182 232 (x_iinc 1 1 (C2)))))))))))
set_option maxRecDepth 20000 in
theorem t_X12_alone_2 {p : Program} {l : Launch} {e : Env} {s : State} {m : MethodId} {args : Array Value} {below : List Frame} {meth : Method} {c : Code} {g : xG} (X : xX p s m args c meth cX12_alone RX12 2 g) (hr : meth.sig.returnType = none) {P : xP} {C2 : xK} (h2 : xAt p l e { frames := 1, cells := 0, slots := 0, locals := 20 } s m args below meth c g 2 xFT xN 0 0 (MQ below (xQc g xFT xN P) args s 0 0 (xFr g)) C2 2) : xAt p l e { frames := 1, cells := 0, slots := 0, locals := 20 } s m args below meth c g 2 xFT xN 0 0 (MQ below (xQc g xFT xN P) args s 0 0 (xFr g)) (k_X12_alone_2 P C2) 2 := by
  unfold k_X12_alone_2
  refine r_iload_n (pc := 2) X d_X12_alone_2 fn1 ?_
  refine r_bipush (pc := 3) X d_X12_alone_3 (by decide +kernel) ?_
  refine r_icmp_ge (pc := 5) (tgt := 24) X d_X12_alone_5 (by decide +kernel) ?_ ?_
  · refine r_aload_n (pc := 24) X d_X12_alone_24 fn0 ?_
    refine s_cv0 (pc := 25) (ci := 12) X xok12 (by decide +kernel) ob_180 rfl (con_X12_other l) mf_X12_other ml_RX12_325 (by decide +kernel) (by decide +kernel) d_X12_alone_25 ?_
    exact r_vret (pc := 28) X hr d_X12_alone_28
  · refine r_aload_n (pc := 8) X d_X12_alone_8 fn0 ?_
    refine s_getF (pc := 9) (ci := 12) (k := 5) X xok12 (by decide +kernel) ob_180 trivial ly_180_5 (by decide +kernel) fl_RX12_30 d_X12_alone_9 ?_
    refine r_bipush (pc := 12) X d_X12_alone_12 (by decide +kernel) ?_
    refine r_iload_n (pc := 14) X d_X12_alone_14 fn1 ?_
    refine r_iadd (pc := 15) X d_X12_alone_15 ?_
    refine r_iload_n (pc := 16) X d_X12_alone_16 fn1 ?_
    refine s_iast (pc := 17) X tn_182 ln_182 d_X12_alone_17 ?_
    refine r_iinc (pc := 18) X d_X12_alone_18 (by decide +kernel) (by decide +kernel) ?_
    refine r_goto (pc := 21) (tgt := 2) X d_X12_alone_21 (by decide +kernel) ?_
    exact h2
set_option maxRecDepth 20000 in
theorem m_X12_alone {l : Launch} {f : Nat → xH → xP → Prop}  {I2 : Nat → xH → xP → xM → xK}
    (v0 : ∀ (a0 : Nat) (A : xH) (P : xP), f a0 A P → k_X12_alone_0 P (xE (I2 a0 A P)) [some (.ref a0), none] [] A)
    (v2 : ∀ (a0 : Nat) (A : xH) (P : xP), f a0 A P → ∀ (μ : xM) (L : xL) (st : List Value) (B : xH), I2 a0 A P μ L st B → k_X12_alone_2 P (xB (I2 a0 A P) μ) L st B) : xCon l yX12_alone cX12_alone 2 none 1 20 xN xN 0 xFT xFT (w_R f) := by
  refine xc_R (plainFor_of_name pn_RX12) (by decide +kernel) (fun p e s m args below meth c g a0 A P h X hr _ => ?_)
  have h2 := x_loop1 (p := p) (l := l) (e := e) (R := { frames := 1, cells := 0, slots := 0, locals := 20 }) (s := s) (m := m) (args := args) (below := below) (meth := meth) (c := c) (g := g) (nL := 2) (F := xFT) (n := xN) (cells := 0) (slots := 0) (Q := MQ below (xQc g xFT xN P) args s 0 0 (xFr g)) (I := I2 a0 A P) (pc1 := 2) (fun μ i2 => xAt_mono (t_X12_alone_2 (P := P) X hr i2) (v2 a0 A P h μ))
  exact ⟨_, v0 a0 A P h, t_X12_alone_0 X hr h2⟩
theorem d_X12_taken_0 : decode cX12_taken 0 = .ok (.aload_n 0, 1) := by decide +kernel
theorem d_X12_taken_1 : decode cX12_taken 1 = .ok (.aload_n 0, 1) := by decide +kernel
theorem d_X12_taken_2 : decode cX12_taken 2 = .ok (.getfield 1, 3) := by decide +kernel
theorem d_X12_taken_5 : decode cX12_taken 5 = .ok (.putfield 15, 3) := by decide +kernel
theorem d_X12_taken_8 : decode cX12_taken 8 = .ok (.aload_n 0, 1) := by decide +kernel
theorem d_X12_taken_9 : decode cX12_taken 9 = .ok (.iconst 0, 1) := by decide +kernel
theorem d_X12_taken_10 : decode cX12_taken 10 = .ok (.putfield 1, 3) := by decide +kernel
theorem d_X12_taken_13 : decode cX12_taken 13 = .ok (.aload_n 0, 1) := by decide +kernel
theorem d_X12_taken_14 : decode cX12_taken 14 = .ok (.iconst 0, 1) := by decide +kernel
theorem d_X12_taken_15 : decode cX12_taken 15 = .ok (.putfield 18, 3) := by decide +kernel
theorem d_X12_taken_18 : decode cX12_taken 18 = .ok (.aload_n 0, 1) := by decide +kernel
theorem d_X12_taken_19 : decode cX12_taken 19 = .ok (.iload_n 1, 1) := by decide +kernel
theorem d_X12_taken_20 : decode cX12_taken 20 = .ok (.putfield 21, 3) := by decide +kernel
theorem d_X12_taken_23 : decode cX12_taken 23 = .ok (.return_, 1) := by decide +kernel
def k_X12_taken_0 (P : xP) : xK := x_aload 0 (x_aload 0 (y_getI 180 1 (y_putI 180 2 (x_aload 0 (x_push (.int 0) (y_putI 180 1 (x_aload 0 (x_push (.int 0) (y_putI 180 3 (x_aload 0 (x_iload 1 (y_putI 180 4 (x_vret P)))))))))))))
set_option maxRecDepth 20000 in
theorem t_X12_taken_0 {p : Program} {l : Launch} {e : Env} {s : State} {m : MethodId} {args : Array Value} {below : List Frame} {meth : Method} {c : Code} {g : xG} (X : xX p s m args c meth cX12_taken RX12 2 g) (hr : meth.sig.returnType = none) {P : xP} : xAt p l e { frames := 0, cells := 0, slots := 0, locals := 0 } s m args below meth c g 2 xFT xN 0 0 (MQ below (xQc g xFT xN P) args s 0 0 (xFr g)) (k_X12_taken_0 P) 0 := by
  unfold k_X12_taken_0
  refine r_aload_n (pc := 0) X d_X12_taken_0 fn0 ?_
  refine r_aload_n (pc := 1) X d_X12_taken_1 fn0 ?_
  refine s_getI (pc := 2) (ci := 12) X xok12 (by decide +kernel) ob_180 (by decide +kernel) fl_RX12_1 d_X12_taken_2 ?_
  refine s_putI (pc := 5) (ci := 12) X xok12 (by decide +kernel) ob_180 (by decide +kernel) (by decide +kernel) (by decide +kernel) fl_RX12_15 d_X12_taken_5 ?_
  refine r_aload_n (pc := 8) X d_X12_taken_8 fn0 ?_
  refine r_iconst (pc := 9) X d_X12_taken_9 (by decide +kernel) ?_
  refine s_putI (pc := 10) (ci := 12) X xok12 (by decide +kernel) ob_180 (by decide +kernel) (by decide +kernel) (by decide +kernel) fl_RX12_1 d_X12_taken_10 ?_
  refine r_aload_n (pc := 13) X d_X12_taken_13 fn0 ?_
  refine r_iconst (pc := 14) X d_X12_taken_14 (by decide +kernel) ?_
  refine s_putI (pc := 15) (ci := 12) X xok12 (by decide +kernel) ob_180 (by decide +kernel) (by decide +kernel) (by decide +kernel) fl_RX12_18 d_X12_taken_15 ?_
  refine r_aload_n (pc := 18) X d_X12_taken_18 fn0 ?_
  refine r_iload_n (pc := 19) X d_X12_taken_19 fn1 ?_
  refine s_putI (pc := 20) (ci := 12) X xok12 (by decide +kernel) ob_180 (by decide +kernel) (by decide +kernel) (by decide +kernel) fl_RX12_21 d_X12_taken_20 ?_
  exact r_vret (pc := 23) X hr d_X12_taken_23
def f_X12_taken (a0 : Nat) (a1 : Int32) (A : xH) (P : xP) : Prop := k_X12_taken_0 P [some (.ref a0), some (.int a1)] [] A
set_option maxRecDepth 20000 in
theorem con_X12_taken (l : Launch) : xCon l yX12_taken cX12_taken 2 none 0 0 xN xN 0 xFT xFT (w_RI f_X12_taken) :=
  xc_RI (plainFor_of_name pn_RX12) (by decide +kernel) (fun p e s m args below meth c g a0 a1 A P h X hr _ => ⟨_, h, t_X12_taken_0 X hr⟩)
/-- nothing that was worked out is left -/
def oS (A B : xH) : Prop := (∀ c, c ≠ 180 → c ≠ 182 → B.1 c = A.1 c) ∧ B.2 = A.2 ∧ (∀ k, k < 25 ∨ 28 < k → xi B 180 k = xi A 180 k) ∧ xi B 180 25 = 0 ∧ xi B 180 26 = 0 ∧ xi B 180 27 = 0 ∧ xi B 180 28 = 0
theorem si_1 {A : xH} {c k d : Nat} {x : Int32} (h : d ≠ c) : (xsi A c k x).1 d = A.1 d := by
  funext j
  simp [xsi, h]
def f_X12_alone (q : Nat) (A : xH) (P : xP) : Prop := q = 180 ∧ ∀ B, oS A B → (∀ i, i < 42 → xi B 182 (54 + i) = nI i) → (∀ j, j < 54 ∨ 96 ≤ j → xi B 182 j = xi A 182 j) → P none B
theorem con_X12_alone (l : Launch) : xCon l yX12_alone cX12_alone 2 none 1 20 xN xN 0 xFT xFT (w_R f_X12_alone) := by
  refine m_X12_alone (I2 := fun q A P μ L st B => ∃ i, (∀ B, oS A B → (∀ i, i < 42 → xi B 182 (54 + i) = nI i) → (∀ j, j < 54 ∨ 96 ≤ j → xi B 182 j = xi A 182 j) → P none B) ∧ i ≤ 42 ∧ (∀ c, c ≠ 182 → B.1 c = A.1 c) ∧ B.2 = A.2 ∧ (∀ j, j < i → xi B 182 (54 + j) = nI j) ∧ (∀ j, j < 54 ∨ 96 ≤ j → xi B 182 j = xi A 182 j) ∧ st = [] ∧ L = [some (.ref 180), some (.int (nI i))] ∧ μ = (42 - i, 0, 0)) ?_ ?_
  · rintro q A P ⟨rfl, hP⟩
    simp only [k_X12_alone_0, k_X12_alone_2, f_X12_other, w_R, x_aload, x_iadd, x_icmp_ge, x_iinc, x_iload, x_istore, x_push, x_vret, y_cv0, y_getF, y_iast, xFT, xbool0, xbool1, Nat.reduceAdd, Nat.zero_add, xgl_0, xgl_s, xgl_n, xst_0, xst_1n, xst_1i, xst_1r, xst_1l, xst_s, set_0, set_s, true_and, and_true, xres, xcat_nil, xcat_i, xcat_r, xcat_l, Nat.add_zero, xble0, xble1, xble2, xble3, xble4, xble5, xble6, xble7, xble8]
    exact xE0 (42, 0, 0) ⟨0, hP, by omega, fun _ _ => rfl, rfl, fun j hj => by omega, fun _ _ => rfl, rfl, rfl, rfl⟩
  · rintro q A P - μ L st B ⟨i, hP, hi, h1, h2, h3, h4, rfl, rfl, rfl⟩
    simp only [k_X12_alone_0, k_X12_alone_2, f_X12_other, w_R, x_aload, x_iadd, x_icmp_ge, x_iinc, x_iload, x_istore, x_push, x_vret, y_cv0, y_getF, y_iast, xFT, xbool0, xbool1, Nat.reduceAdd, Nat.zero_add, xgl_0, xgl_s, xgl_n, xst_0, xst_1n, xst_1i, xst_1r, xst_1l, xst_s, set_0, set_s, true_and, and_true, xres, xcat_nil, xcat_i, xcat_r, xcat_l, Nat.add_zero, xble0, xble1, xble2, xble3, xble4, xble5, xble6, xble7, xble8, k_X12_other_0, x_aload, x_push, x_vret, y_putZ, xFT, xbool0, xbool1, Nat.reduceAdd, Nat.zero_add, xgl_0, xgl_s, xgl_n, xst_0, xst_1n, xst_1i, xst_1r, xst_1l, xst_s, set_0, set_s, true_and, and_true, xres, xcat_nil, xcat_i, xcat_r, xcat_l, Nat.add_zero, xble0, xble1, xble2, xble3, xble4, xble5, xble6, xble7, xble8, c_ge 42 (c := i) (by omega) (by decide), show (54 : Int32) = nI 54 from rfl, nI_add, n_cl (n := 54 + i) (by omega), nI_1]
    refine ⟨fun a => ?_, fun a => ⟨(n_in (by omega) (by omega)).mpr (by omega), xB1 (b := 42 - (i + 1)) (by omega) ⟨i + 1, hP, by omega, fun c hc => (si_1 hc).trans (h1 c hc), h2, fun j hj => ?_, fun j hj => ?_, rfl, rfl, rfl⟩⟩⟩
    · have : i = 42 := by omega
      subst this
      refine hP _ ⟨fun c c1 c2 => ?_, h2, fun k hk => ?_, ?_, ?_, ?_, si_eq⟩ (fun j hj => ?_) (fun j hj => ?_)
      · rw [si_1 c1, si_1 c1, si_1 c1, si_1 c1]; exact h1 c c2
      · rw [si_ne (by omega), si_ne (by omega), si_ne (by omega), si_ne (by omega)]; exact congrFun (h1 180 (by omega)) k
      · rw [si_ne (by omega), si_ne (by omega), si_ne (by omega), si_eq]
      · rw [si_ne (by omega), si_ne (by omega), si_eq]
      · rw [si_ne (by omega), si_eq]
      · rw [si_ne (by omega), si_ne (by omega), si_ne (by omega), si_ne (by omega)]; exact h3 j hj
      · rw [si_ne (by omega), si_ne (by omega), si_ne (by omega), si_ne (by omega)]; exact h4 j hj
    · by_cases e : j < i
      · rw [si_ne (by omega)]; exact h3 j e
      · rw [show j = i by omega, si_eq]
    · rw [si_ne (by omega)]; exact h4 j hj
theorem d_X12_grammar_0 : decode cX12_grammar 0 = .ok (.aload_n 0, 1) := by decide +kernel
theorem d_X12_grammar_1 : decode cX12_grammar 1 = .ok (.sipush 900, 3) := by decide +kernel
theorem d_X12_grammar_4 : decode cX12_grammar 4 = .ok (.invokevirtual 294, 3) := by decide +kernel
theorem d_X12_grammar_7 : decode cX12_grammar 7 = .ok (.aload_n 0, 1) := by decide +kernel
theorem d_X12_grammar_8 : decode cX12_grammar 8 = .ok (.iconst 0, 1) := by decide +kernel
theorem d_X12_grammar_9 : decode cX12_grammar 9 = .ok (.putfield 249, 3) := by decide +kernel
theorem d_X12_grammar_12 : decode cX12_grammar 12 = .ok (.aload_n 0, 1) := by decide +kernel
theorem d_X12_grammar_13 : decode cX12_grammar 13 = .ok (.iconst 0, 1) := by decide +kernel
theorem d_X12_grammar_14 : decode cX12_grammar 14 = .ok (.putfield 297, 3) := by decide +kernel
theorem d_X12_grammar_17 : decode cX12_grammar 17 = .ok (.iconst 0, 1) := by decide +kernel
theorem d_X12_grammar_18 : decode cX12_grammar 18 = .ok (.istore_n 1, 1) := by decide +kernel
theorem d_X12_grammar_19 : decode cX12_grammar 19 = .ok (.iload_n 1, 1) := by decide +kernel
theorem d_X12_grammar_20 : decode cX12_grammar 20 = .ok (.bipush 54, 2) := by decide +kernel
theorem d_X12_grammar_22 : decode cX12_grammar 22 = .ok (.if_icmp .ge 16, 3) := by decide +kernel
theorem d_X12_grammar_25 : decode cX12_grammar 25 = .ok (.aload_n 0, 1) := by decide +kernel
theorem d_X12_grammar_26 : decode cX12_grammar 26 = .ok (.getfield 34, 3) := by decide +kernel
theorem d_X12_grammar_29 : decode cX12_grammar 29 = .ok (.iload_n 1, 1) := by decide +kernel
theorem d_X12_grammar_30 : decode cX12_grammar 30 = .ok (.iconst 0, 1) := by decide +kernel
theorem d_X12_grammar_31 : decode cX12_grammar 31 = .ok (.iastore, 1) := by decide +kernel
theorem d_X12_grammar_32 : decode cX12_grammar 32 = .ok (.iinc 1 1, 3) := by decide +kernel
theorem d_X12_grammar_35 : decode cX12_grammar 35 = .ok (.goto (-16), 3) := by decide +kernel
theorem d_X12_grammar_38 : decode cX12_grammar 38 = .ok (.aload_n 0, 1) := by decide +kernel
theorem d_X12_grammar_39 : decode cX12_grammar 39 = .ok (.invokevirtual 261, 3) := by decide +kernel
theorem d_X12_grammar_42 : decode cX12_grammar 42 = .ok (.aload_n 0, 1) := by decide +kernel
theorem d_X12_grammar_43 : decode cX12_grammar 43 = .ok (.getfield 232, 3) := by decide +kernel
theorem d_X12_grammar_46 : decode cX12_grammar 46 = .ok (.ifCond .eq 39, 3) := by decide +kernel
theorem d_X12_grammar_49 : decode cX12_grammar 49 = .ok (.aload_n 0, 1) := by decide +kernel
theorem d_X12_grammar_50 : decode cX12_grammar 50 = .ok (.invokevirtual 300, 3) := by decide +kernel
theorem d_X12_grammar_53 : decode cX12_grammar 53 = .ok (.ifCond .eq 12, 3) := by decide +kernel
theorem d_X12_grammar_56 : decode cX12_grammar 56 = .ok (.aload_n 0, 1) := by decide +kernel
theorem d_X12_grammar_57 : decode cX12_grammar 57 = .ok (.bipush 59, 2) := by decide +kernel
theorem d_X12_grammar_59 : decode cX12_grammar 59 = .ok (.invokevirtual 303, 3) := by decide +kernel
theorem d_X12_grammar_62 : decode cX12_grammar 62 = .ok (.ifCond .ne 10, 3) := by decide +kernel
theorem d_X12_grammar_65 : decode cX12_grammar 65 = .ok (.iconst (-1), 1) := by decide +kernel
theorem d_X12_grammar_66 : decode cX12_grammar 66 = .ok (.aload_n 0, 1) := by decide +kernel
theorem d_X12_grammar_67 : decode cX12_grammar 67 = .ok (.getfield 252, 3) := by decide +kernel
theorem d_X12_grammar_70 : decode cX12_grammar 70 = .ok (.isub, 1) := by decide +kernel
theorem d_X12_grammar_71 : decode cX12_grammar 71 = .ok (.ireturn, 1) := by decide +kernel
theorem d_X12_grammar_72 : decode cX12_grammar 72 = .ok (.aload_n 0, 1) := by decide +kernel
theorem d_X12_grammar_73 : decode cX12_grammar 73 = .ok (.dup, 1) := by decide +kernel
theorem d_X12_grammar_74 : decode cX12_grammar 74 = .ok (.getfield 297, 3) := by decide +kernel
theorem d_X12_grammar_77 : decode cX12_grammar 77 = .ok (.iconst 1, 1) := by decide +kernel
theorem d_X12_grammar_78 : decode cX12_grammar 78 = .ok (.iadd, 1) := by decide +kernel
theorem d_X12_grammar_79 : decode cX12_grammar 79 = .ok (.putfield 297, 3) := by decide +kernel
theorem d_X12_grammar_82 : decode cX12_grammar 82 = .ok (.goto (-40), 3) := by decide +kernel
theorem d_X12_grammar_85 : decode cX12_grammar 85 = .ok (.iconst 0, 1) := by decide +kernel
theorem d_X12_grammar_86 : decode cX12_grammar 86 = .ok (.istore_n 1, 1) := by decide +kernel
theorem d_X12_grammar_87 : decode cX12_grammar 87 = .ok (.iload_n 1, 1) := by decide +kernel
theorem d_X12_grammar_88 : decode cX12_grammar 88 = .ok (.sipush 232, 3) := by decide +kernel
theorem d_X12_grammar_91 : decode cX12_grammar 91 = .ok (.if_icmp .ge 31, 3) := by decide +kernel
theorem d_X12_grammar_94 : decode cX12_grammar 94 = .ok (.aload_n 0, 1) := by decide +kernel
theorem d_X12_grammar_95 : decode cX12_grammar 95 = .ok (.getfield 30, 3) := by decide +kernel
theorem d_X12_grammar_98 : decode cX12_grammar 98 = .ok (.iload_n 1, 1) := by decide +kernel
theorem d_X12_grammar_99 : decode cX12_grammar 99 = .ok (.iload_n 1, 1) := by decide +kernel
theorem d_X12_grammar_100 : decode cX12_grammar 100 = .ok (.bipush 54, 2) := by decide +kernel
theorem d_X12_grammar_102 : decode cX12_grammar 102 = .ok (.if_icmp .ge 12, 3) := by decide +kernel
theorem d_X12_grammar_105 : decode cX12_grammar 105 = .ok (.aload_n 0, 1) := by decide +kernel
theorem d_X12_grammar_106 : decode cX12_grammar 106 = .ok (.getfield 34, 3) := by decide +kernel
theorem d_X12_grammar_109 : decode cX12_grammar 109 = .ok (.iload_n 1, 1) := by decide +kernel
theorem d_X12_grammar_110 : decode cX12_grammar 110 = .ok (.iaload, 1) := by decide +kernel
theorem d_X12_grammar_111 : decode cX12_grammar 111 = .ok (.goto 4, 3) := by decide +kernel
theorem d_X12_grammar_114 : decode cX12_grammar 114 = .ok (.iconst 0, 1) := by decide +kernel
theorem d_X12_grammar_115 : decode cX12_grammar 115 = .ok (.iastore, 1) := by decide +kernel
theorem d_X12_grammar_116 : decode cX12_grammar 116 = .ok (.iinc 1 1, 3) := by decide +kernel
theorem d_X12_grammar_119 : decode cX12_grammar 119 = .ok (.goto (-32), 3) := by decide +kernel
theorem d_X12_grammar_122 : decode cX12_grammar 122 = .ok (.iconst 0, 1) := by decide +kernel
theorem d_X12_grammar_123 : decode cX12_grammar 123 = .ok (.istore_n 1, 1) := by decide +kernel
theorem d_X12_grammar_124 : decode cX12_grammar 124 = .ok (.iload_n 1, 1) := by decide +kernel
theorem d_X12_grammar_125 : decode cX12_grammar 125 = .ok (.bipush 9, 2) := by decide +kernel
theorem d_X12_grammar_127 : decode cX12_grammar 127 = .ok (.if_icmp .ge 24, 3) := by decide +kernel
theorem d_X12_grammar_130 : decode cX12_grammar 130 = .ok (.aload_n 0, 1) := by decide +kernel
theorem d_X12_grammar_131 : decode cX12_grammar 131 = .ok (.getfield 43, 3) := by decide +kernel
theorem d_X12_grammar_134 : decode cX12_grammar 134 = .ok (.iload_n 1, 1) := by decide +kernel
theorem d_X12_grammar_135 : decode cX12_grammar 135 = .ok (.aload_n 0, 1) := by decide +kernel
theorem d_X12_grammar_136 : decode cX12_grammar 136 = .ok (.getfield 43, 3) := by decide +kernel
theorem d_X12_grammar_139 : decode cX12_grammar 139 = .ok (.bipush 9, 2) := by decide +kernel
theorem d_X12_grammar_141 : decode cX12_grammar 141 = .ok (.iload_n 1, 1) := by decide +kernel
theorem d_X12_grammar_142 : decode cX12_grammar 142 = .ok (.iadd, 1) := by decide +kernel
theorem d_X12_grammar_143 : decode cX12_grammar 143 = .ok (.laload, 1) := by decide +kernel
theorem d_X12_grammar_144 : decode cX12_grammar 144 = .ok (.lastore, 1) := by decide +kernel
theorem d_X12_grammar_145 : decode cX12_grammar 145 = .ok (.iinc 1 1, 3) := by decide +kernel
theorem d_X12_grammar_148 : decode cX12_grammar 148 = .ok (.goto (-24), 3) := by decide +kernel
theorem d_X12_grammar_151 : decode cX12_grammar 151 = .ok (.aload_n 0, 1) := by decide +kernel
theorem d_X12_grammar_152 : decode cX12_grammar 152 = .ok (.invokevirtual 306, 3) := by decide +kernel
theorem d_X12_grammar_155 : decode cX12_grammar 155 = .ok (.aload_n 0, 1) := by decide +kernel
theorem d_X12_grammar_156 : decode cX12_grammar 156 = .ok (.iconst 0, 1) := by decide +kernel
theorem d_X12_grammar_157 : decode cX12_grammar 157 = .ok (.putfield 309, 3) := by decide +kernel
theorem d_X12_grammar_160 : decode cX12_grammar 160 = .ok (.aload_n 0, 1) := by decide +kernel
theorem d_X12_grammar_161 : decode cX12_grammar 161 = .ok (.getfield 297, 3) := by decide +kernel
theorem d_X12_grammar_164 : decode cX12_grammar 164 = .ok (.ireturn, 1) := by decide +kernel
def k_X12_grammar_0 (P : xP) (C19 : xK) : xK := x_aload 0 (x_push (.int 900) (y_cv1 180 (w_RI f_X12_taken) (x_aload 0 (x_push (.int 0) (y_putI 180 15 (x_aload 0 (x_push (.int 0) (y_putI 180 19 (x_push (.int 0) (x_istore 1 (C19)))))))))))
set_option maxRecDepth 20000 in
theorem t_X12_grammar_0 {p : Program} {l : Launch} {e : Env} {s : State} {m : MethodId} {args : Array Value} {below : List Frame} {meth : Method} {c : Code} {g : xG} (X : xX p s m args c meth cX12_grammar RX12 2 g) (hr : meth.sig.returnType = (some .int)) {P : xP} {C19 : xK} (h19 : xAt p l e { frames := 4, cells := 0, slots := 0, locals := 94 } s m args below meth c g 2 xFT xN 0 0 (MQ below (xQc g xFT xN P) args s 0 0 (xFr g)) C19 19) : xAt p l e { frames := 4, cells := 0, slots := 0, locals := 94 } s m args below meth c g 2 xFT xN 0 0 (MQ below (xQc g xFT xN P) args s 0 0 (xFr g)) (k_X12_grammar_0 P C19) 0 := by
  unfold k_X12_grammar_0
  refine r_aload_n (pc := 0) X d_X12_grammar_0 fn0 ?_
  refine r_sipush (pc := 1) X d_X12_grammar_1 (by decide +kernel) ?_
  refine s_cv1 (pc := 4) (ci := 12) X xok12 (by decide +kernel) ob_180 rfl (con_X12_taken l) mf_X12_taken ml_RX12_294 (by decide +kernel) (by decide +kernel) d_X12_grammar_4 ?_
  refine r_aload_n (pc := 7) X d_X12_grammar_7 fn0 ?_
  refine r_iconst (pc := 8) X d_X12_grammar_8 (by decide +kernel) ?_
  refine s_putI (pc := 9) (ci := 12) X xok12 (by decide +kernel) ob_180 (by decide +kernel) (by decide +kernel) (by decide +kernel) fl_RX12_249 d_X12_grammar_9 ?_
  refine r_aload_n (pc := 12) X d_X12_grammar_12 fn0 ?_
  refine r_iconst (pc := 13) X d_X12_grammar_13 (by decide +kernel) ?_
  refine s_putI (pc := 14) (ci := 12) X xok12 (by decide +kernel) ob_180 (by decide +kernel) (by decide +kernel) (by decide +kernel) fl_RX12_297 d_X12_grammar_14 ?_
  refine r_iconst (pc := 17) X d_X12_grammar_17 (by decide +kernel) ?_
  refine r_istore_n (pc := 18) X d_X12_grammar_18 fn1 (by decide +kernel) ?_
  exact h19
def k_X12_grammar_19 (P : xP) (C19 : xK) (C42 : xK) : xK := x_iload 1 (x_push (.int 54) (x_icmp_ge (x_aload 0 (y_cv0 180 (w_R f_X12_next) (C42))) (x_aload 0 (y_getF 180 183 (x_iload 1 (x_push (.int 0) (y_iast 183 54 (x_iinc 1 1 (C19)))))))))
set_option maxRecDepth 20000 in
theorem t_X12_grammar_19 {p : Program} {l : Launch} {e : Env} {s : State} {m : MethodId} {args : Array Value} {below : List Frame} {meth : Method} {c : Code} {g : xG} (X : xX p s m args c meth cX12_grammar RX12 2 g) (hr : meth.sig.returnType = (some .int)) {P : xP} {C19 : xK} {C42 : xK} (h19 : xAt p l e { frames := 4, cells := 0, slots := 0, locals := 94 } s m args below meth c g 2 xFT xN 0 0 (MQ below (xQc g xFT xN P) args s 0 0 (xFr g)) C19 19) (h42 : xAt p l e { frames := 4, cells := 0, slots := 0, locals := 94 } s m args below meth c g 2 xFT xN 0 0 (MQ below (xQc g xFT xN P) args s 0 0 (xFr g)) C42 42) : xAt p l e { frames := 4, cells := 0, slots := 0, locals := 94 } s m args below meth c g 2 xFT xN 0 0 (MQ below (xQc g xFT xN P) args s 0 0 (xFr g)) (k_X12_grammar_19 P C19 C42) 19 := by
  unfold k_X12_grammar_19
  refine r_iload_n (pc := 19) X d_X12_grammar_19 fn1 ?_
  refine r_bipush (pc := 20) X d_X12_grammar_20 (by decide +kernel) ?_
  refine r_icmp_ge (pc := 22) (tgt := 38) X d_X12_grammar_22 (by decide +kernel) ?_ ?_
  · refine r_aload_n (pc := 38) X d_X12_grammar_38 fn0 ?_
    refine s_cv0 (pc := 39) (ci := 12) X xok12 (by decide +kernel) ob_180 rfl (con_X12_next l) mf_X12_next ml_RX12_261 (by decide +kernel) (by decide +kernel) d_X12_grammar_39 ?_
    exact h42
  · refine r_aload_n (pc := 25) X d_X12_grammar_25 fn0 ?_
    refine s_getF (pc := 26) (ci := 12) (k := 6) X xok12 (by decide +kernel) ob_180 trivial ly_180_6 (by decide +kernel) fl_RX12_34 d_X12_grammar_26 ?_
    refine r_iload_n (pc := 29) X d_X12_grammar_29 fn1 ?_
    refine r_iconst (pc := 30) X d_X12_grammar_30 (by decide +kernel) ?_
    refine s_iast (pc := 31) X tn_183 ln_183 d_X12_grammar_31 ?_
    refine r_iinc (pc := 32) X d_X12_grammar_32 (by decide +kernel) (by decide +kernel) ?_
    refine r_goto (pc := 35) (tgt := 19) X d_X12_grammar_35 (by decide +kernel) ?_
    exact h19
def k_X12_grammar_65 (P : xP) : xK := x_push (.int (-1)) (x_aload 0 (y_getI 180 16 (x_isub (x_iret P))))
set_option maxRecDepth 20000 in
theorem t_X12_grammar_65 {p : Program} {l : Launch} {e : Env} {s : State} {m : MethodId} {args : Array Value} {below : List Frame} {meth : Method} {c : Code} {g : xG} (X : xX p s m args c meth cX12_grammar RX12 2 g) (hr : meth.sig.returnType = (some .int)) {P : xP} : xAt p l e { frames := 4, cells := 0, slots := 0, locals := 94 } s m args below meth c g 2 xFT xN 0 0 (MQ below (xQc g xFT xN P) args s 0 0 (xFr g)) (k_X12_grammar_65 P) 65 := by
  unfold k_X12_grammar_65
  refine r_iconst (pc := 65) X d_X12_grammar_65 (by decide +kernel) ?_
  refine r_aload_n (pc := 66) X d_X12_grammar_66 fn0 ?_
  refine s_getI (pc := 67) (ci := 12) X xok12 (by decide +kernel) ob_180 (by decide +kernel) fl_RX12_252 d_X12_grammar_67 ?_
  refine r_isub (pc := 70) X d_X12_grammar_70 ?_
  exact r_iret (pc := 71) X hr d_X12_grammar_71
def k_X12_grammar_42 (P : xP) (C42 : xK) (C87 : xK) : xK := x_aload 0 (y_getI 180 11 (x_if_eq (x_push (.int 0) (x_istore 1 (C87))) (x_aload 0 (y_cv0 180 (w_R f_X12_readLine) (x_if_eq ((k_X12_grammar_65 P)) (x_aload 0 (x_push (.int 59) (y_cv1 180 (w_RI f_X12_sign) (x_if_ne (x_aload 0 (x_dup (y_getI 180 19 (x_push (.int 1) (x_iadd (y_putI 180 19 (C42))))))) ((k_X12_grammar_65 P)))))))))))
set_option maxRecDepth 20000 in
theorem t_X12_grammar_42 {p : Program} {l : Launch} {e : Env} {s : State} {m : MethodId} {args : Array Value} {below : List Frame} {meth : Method} {c : Code} {g : xG} (X : xX p s m args c meth cX12_grammar RX12 2 g) (hr : meth.sig.returnType = (some .int)) {P : xP} {C42 : xK} {C87 : xK} (h42 : xAt p l e { frames := 4, cells := 0, slots := 0, locals := 94 } s m args below meth c g 2 xFT xN 0 0 (MQ below (xQc g xFT xN P) args s 0 0 (xFr g)) C42 42) (h87 : xAt p l e { frames := 4, cells := 0, slots := 0, locals := 94 } s m args below meth c g 2 xFT xN 0 0 (MQ below (xQc g xFT xN P) args s 0 0 (xFr g)) C87 87) : xAt p l e { frames := 4, cells := 0, slots := 0, locals := 94 } s m args below meth c g 2 xFT xN 0 0 (MQ below (xQc g xFT xN P) args s 0 0 (xFr g)) (k_X12_grammar_42 P C42 C87) 42 := by
  unfold k_X12_grammar_42
  refine r_aload_n (pc := 42) X d_X12_grammar_42 fn0 ?_
  refine s_getI (pc := 43) (ci := 12) X xok12 (by decide +kernel) ob_180 (by decide +kernel) fl_RX12_232 d_X12_grammar_43 ?_
  refine r_if_eq (pc := 46) (tgt := 85) X d_X12_grammar_46 (by decide +kernel) ?_ ?_
  · refine r_iconst (pc := 85) X d_X12_grammar_85 (by decide +kernel) ?_
    refine r_istore_n (pc := 86) X d_X12_grammar_86 fn1 (by decide +kernel) ?_
    exact h87
  · refine r_aload_n (pc := 49) X d_X12_grammar_49 fn0 ?_
    refine s_cv0 (pc := 50) (ci := 12) X xok12 (by decide +kernel) ob_180 rfl (con_X12_readLine l) mf_X12_readLine ml_RX12_300 (by decide +kernel) (by decide +kernel) d_X12_grammar_50 ?_
    refine r_if_eq (pc := 53) (tgt := 65) X d_X12_grammar_53 (by decide +kernel) ?_ ?_
    · exact t_X12_grammar_65 X hr
    · refine r_aload_n (pc := 56) X d_X12_grammar_56 fn0 ?_
      refine r_bipush (pc := 57) X d_X12_grammar_57 (by decide +kernel) ?_
      refine s_cv1 (pc := 59) (ci := 12) X xok12 (by decide +kernel) ob_180 rfl (con_X12_sign l) mf_X12_sign ml_RX12_303 (by decide +kernel) (by decide +kernel) d_X12_grammar_59 ?_
      refine r_if_ne (pc := 62) (tgt := 72) X d_X12_grammar_62 (by decide +kernel) ?_ ?_
      · refine r_aload_n (pc := 72) X d_X12_grammar_72 fn0 ?_
        refine r_dup (pc := 73) X d_X12_grammar_73 ?_
        refine s_getI (pc := 74) (ci := 12) X xok12 (by decide +kernel) ob_180 (by decide +kernel) fl_RX12_297 d_X12_grammar_74 ?_
        refine r_iconst (pc := 77) X d_X12_grammar_77 (by decide +kernel) ?_
        refine r_iadd (pc := 78) X d_X12_grammar_78 ?_
        refine s_putI (pc := 79) (ci := 12) X xok12 (by decide +kernel) ob_180 (by decide +kernel) (by decide +kernel) (by decide +kernel) fl_RX12_297 d_X12_grammar_79 ?_
        refine r_goto (pc := 82) (tgt := 42) X d_X12_grammar_82 (by decide +kernel) ?_
        exact h42
      · exact t_X12_grammar_65 X hr
def k_X12_grammar_115 (P : xP) (C87 : xK) : xK := x_iast xN (x_iinc 1 1 (C87))
set_option maxRecDepth 20000 in
theorem t_X12_grammar_115 {p : Program} {l : Launch} {e : Env} {s : State} {m : MethodId} {args : Array Value} {below : List Frame} {meth : Method} {c : Code} {g : xG} (X : xX p s m args c meth cX12_grammar RX12 2 g) (hr : meth.sig.returnType = (some .int)) {P : xP} {C87 : xK} (h87 : xAt p l e { frames := 4, cells := 0, slots := 0, locals := 94 } s m args below meth c g 2 xFT xN 0 0 (MQ below (xQc g xFT xN P) args s 0 0 (xFr g)) C87 87) : xAt p l e { frames := 4, cells := 0, slots := 0, locals := 94 } s m args below meth c g 2 xFT xN 0 0 (MQ below (xQc g xFT xN P) args s 0 0 (xFr g)) (k_X12_grammar_115 P C87) 115 := by
  unfold k_X12_grammar_115
  refine r_iast (pc := 115) X d_X12_grammar_115 ?_
  refine r_iinc (pc := 116) X d_X12_grammar_116 (by decide +kernel) (by decide +kernel) ?_
  refine r_goto (pc := 119) (tgt := 87) X d_X12_grammar_119 (by decide +kernel) ?_
  exact h87
def k_X12_grammar_87 (P : xP) (C87 : xK) (C124 : xK) : xK := x_iload 1 (x_push (.int 232) (x_icmp_ge (x_push (.int 0) (x_istore 1 (C124))) (x_aload 0 (y_getF 180 182 (x_iload 1 (x_iload 1 (x_push (.int 54) (x_icmp_ge (x_push (.int 0) ((k_X12_grammar_115 P C87))) (x_aload 0 (y_getF 180 183 (x_iload 1 (y_iald 183 54 ((k_X12_grammar_115 P C87))))))))))))))
set_option maxRecDepth 20000 in
theorem t_X12_grammar_87 {p : Program} {l : Launch} {e : Env} {s : State} {m : MethodId} {args : Array Value} {below : List Frame} {meth : Method} {c : Code} {g : xG} (X : xX p s m args c meth cX12_grammar RX12 2 g) (hr : meth.sig.returnType = (some .int)) {P : xP} {C87 : xK} {C124 : xK} (h87 : xAt p l e { frames := 4, cells := 0, slots := 0, locals := 94 } s m args below meth c g 2 xFT xN 0 0 (MQ below (xQc g xFT xN P) args s 0 0 (xFr g)) C87 87) (h124 : xAt p l e { frames := 4, cells := 0, slots := 0, locals := 94 } s m args below meth c g 2 xFT xN 0 0 (MQ below (xQc g xFT xN P) args s 0 0 (xFr g)) C124 124) : xAt p l e { frames := 4, cells := 0, slots := 0, locals := 94 } s m args below meth c g 2 xFT xN 0 0 (MQ below (xQc g xFT xN P) args s 0 0 (xFr g)) (k_X12_grammar_87 P C87 C124) 87 := by
  unfold k_X12_grammar_87
  refine r_iload_n (pc := 87) X d_X12_grammar_87 fn1 ?_
  refine r_sipush (pc := 88) X d_X12_grammar_88 (by decide +kernel) ?_
  refine r_icmp_ge (pc := 91) (tgt := 122) X d_X12_grammar_91 (by decide +kernel) ?_ ?_
  · refine r_iconst (pc := 122) X d_X12_grammar_122 (by decide +kernel) ?_
    refine r_istore_n (pc := 123) X d_X12_grammar_123 fn1 (by decide +kernel) ?_
    exact h124
  · refine r_aload_n (pc := 94) X d_X12_grammar_94 fn0 ?_
    refine s_getF (pc := 95) (ci := 12) (k := 5) X xok12 (by decide +kernel) ob_180 trivial ly_180_5 (by decide +kernel) fl_RX12_30 d_X12_grammar_95 ?_
    refine r_iload_n (pc := 98) X d_X12_grammar_98 fn1 ?_
    refine r_iload_n (pc := 99) X d_X12_grammar_99 fn1 ?_
    refine r_bipush (pc := 100) X d_X12_grammar_100 (by decide +kernel) ?_
    refine r_icmp_ge (pc := 102) (tgt := 114) X d_X12_grammar_102 (by decide +kernel) ?_ ?_
    · refine r_iconst (pc := 114) X d_X12_grammar_114 (by decide +kernel) ?_
      exact t_X12_grammar_115 X hr h87
    · refine r_aload_n (pc := 105) X d_X12_grammar_105 fn0 ?_
      refine s_getF (pc := 106) (ci := 12) (k := 6) X xok12 (by decide +kernel) ob_180 trivial ly_180_6 (by decide +kernel) fl_RX12_34 d_X12_grammar_106 ?_
      refine r_iload_n (pc := 109) X d_X12_grammar_109 fn1 ?_
      refine s_iald (pc := 110) X tn_183 ln_183 d_X12_grammar_110 ?_
      refine r_goto (pc := 111) (tgt := 115) X d_X12_grammar_111 (by decide +kernel) ?_
      exact t_X12_grammar_115 X hr h87
def k_X12_grammar_124 (P : xP) (C124 : xK) : xK := x_iload 1 (x_push (.int 9) (x_icmp_ge (x_aload 0 (y_cv0 180 (w_R f_X12_alone) (x_aload 0 (x_push (.int 0) (y_putI 180 57 (x_aload 0 (y_getI 180 19 (x_iret P)))))))) (x_aload 0 (y_getF 180 186 (x_iload 1 (x_aload 0 (y_getF 180 186 (x_push (.int 9) (x_iload 1 (x_iadd (y_lald 186 18 (y_last 186 18 (x_iinc 1 1 (C124))))))))))))))
set_option maxRecDepth 20000 in
theorem t_X12_grammar_124 {p : Program} {l : Launch} {e : Env} {s : State} {m : MethodId} {args : Array Value} {below : List Frame} {meth : Method} {c : Code} {g : xG} (X : xX p s m args c meth cX12_grammar RX12 2 g) (hr : meth.sig.returnType = (some .int)) {P : xP} {C124 : xK} (h124 : xAt p l e { frames := 4, cells := 0, slots := 0, locals := 94 } s m args below meth c g 2 xFT xN 0 0 (MQ below (xQc g xFT xN P) args s 0 0 (xFr g)) C124 124) : xAt p l e { frames := 4, cells := 0, slots := 0, locals := 94 } s m args below meth c g 2 xFT xN 0 0 (MQ below (xQc g xFT xN P) args s 0 0 (xFr g)) (k_X12_grammar_124 P C124) 124 := by
  unfold k_X12_grammar_124
  refine r_iload_n (pc := 124) X d_X12_grammar_124 fn1 ?_
  refine r_bipush (pc := 125) X d_X12_grammar_125 (by decide +kernel) ?_
  refine r_icmp_ge (pc := 127) (tgt := 151) X d_X12_grammar_127 (by decide +kernel) ?_ ?_
  · refine r_aload_n (pc := 151) X d_X12_grammar_151 fn0 ?_
    refine s_cv0 (pc := 152) (ci := 12) X xok12 (by decide +kernel) ob_180 rfl (con_X12_alone l) mf_X12_alone ml_RX12_306 (by decide +kernel) (by decide +kernel) d_X12_grammar_152 ?_
    refine r_aload_n (pc := 155) X d_X12_grammar_155 fn0 ?_
    refine r_iconst (pc := 156) X d_X12_grammar_156 (by decide +kernel) ?_
    refine s_putI (pc := 157) (ci := 12) X xok12 (by decide +kernel) ob_180 (by decide +kernel) (by decide +kernel) (by decide +kernel) fl_RX12_309 d_X12_grammar_157 ?_
    refine r_aload_n (pc := 160) X d_X12_grammar_160 fn0 ?_
    refine s_getI (pc := 161) (ci := 12) X xok12 (by decide +kernel) ob_180 (by decide +kernel) fl_RX12_297 d_X12_grammar_161 ?_
    exact r_iret (pc := 164) X hr d_X12_grammar_164
  · refine r_aload_n (pc := 130) X d_X12_grammar_130 fn0 ?_
    refine s_getF (pc := 131) (ci := 12) (k := 9) X xok12 (by decide +kernel) ob_180 trivial ly_180_9 (by decide +kernel) fl_RX12_43 d_X12_grammar_131 ?_
    refine r_iload_n (pc := 134) X d_X12_grammar_134 fn1 ?_
    refine r_aload_n (pc := 135) X d_X12_grammar_135 fn0 ?_
    refine s_getF (pc := 136) (ci := 12) (k := 9) X xok12 (by decide +kernel) ob_180 trivial ly_180_9 (by decide +kernel) fl_RX12_43 d_X12_grammar_136 ?_
    refine r_bipush (pc := 139) X d_X12_grammar_139 (by decide +kernel) ?_
    refine r_iload_n (pc := 141) X d_X12_grammar_141 fn1 ?_
    refine r_iadd (pc := 142) X d_X12_grammar_142 ?_
    refine s_lald (pc := 143) X tn_186 ln_186 d_X12_grammar_143 ?_
    refine s_last (pc := 144) X tn_186 ln_186 d_X12_grammar_144 ?_
    refine r_iinc (pc := 145) X d_X12_grammar_145 (by decide +kernel) (by decide +kernel) ?_
    refine r_goto (pc := 148) (tgt := 124) X d_X12_grammar_148 (by decide +kernel) ?_
    exact h124
set_option maxRecDepth 20000 in
theorem m_X12_grammar {l : Launch} {f : Nat → xH → xP → Prop}  {I19 : Nat → xH → xP → xM → xK} {I42 : Nat → xH → xP → xM → xK} {I87 : Nat → xH → xP → xM → xK} {I124 : Nat → xH → xP → xM → xK}
    (v0 : ∀ (a0 : Nat) (A : xH) (P : xP), f a0 A P → k_X12_grammar_0 P (xE (I19 a0 A P)) [some (.ref a0), none] [] A)
    (v19 : ∀ (a0 : Nat) (A : xH) (P : xP), f a0 A P → ∀ (μ : xM) (L : xL) (st : List Value) (B : xH), I19 a0 A P μ L st B → k_X12_grammar_19 P (xB (I19 a0 A P) μ) (xE (I42 a0 A P)) L st B)
    (v42 : ∀ (a0 : Nat) (A : xH) (P : xP), f a0 A P → ∀ (μ : xM) (L : xL) (st : List Value) (B : xH), I42 a0 A P μ L st B → k_X12_grammar_42 P (xB (I42 a0 A P) μ) (xE (I87 a0 A P)) L st B)
    (v87 : ∀ (a0 : Nat) (A : xH) (P : xP), f a0 A P → ∀ (μ : xM) (L : xL) (st : List Value) (B : xH), I87 a0 A P μ L st B → k_X12_grammar_87 P (xB (I87 a0 A P) μ) (xE (I124 a0 A P)) L st B)
    (v124 : ∀ (a0 : Nat) (A : xH) (P : xP), f a0 A P → ∀ (μ : xM) (L : xL) (st : List Value) (B : xH), I124 a0 A P μ L st B → k_X12_grammar_124 P (xB (I124 a0 A P) μ) L st B) : xCon l yX12_grammar cX12_grammar 2 (some .int) 4 94 xN xN 0 xFT xFT (w_R f) := by
  refine xc_R (plainFor_of_name pn_RX12) (by decide +kernel) (fun p e s m args below meth c g a0 A P h X hr _ => ?_)
  have h124 := x_loop1 (p := p) (l := l) (e := e) (R := { frames := 4, cells := 0, slots := 0, locals := 94 }) (s := s) (m := m) (args := args) (below := below) (meth := meth) (c := c) (g := g) (nL := 2) (F := xFT) (n := xN) (cells := 0) (slots := 0) (Q := MQ below (xQc g xFT xN P) args s 0 0 (xFr g)) (I := I124 a0 A P) (pc1 := 124) (fun μ i124 => xAt_mono (t_X12_grammar_124 (P := P) X hr i124) (v124 a0 A P h μ))
  have h87 := x_loop1 (p := p) (l := l) (e := e) (R := { frames := 4, cells := 0, slots := 0, locals := 94 }) (s := s) (m := m) (args := args) (below := below) (meth := meth) (c := c) (g := g) (nL := 2) (F := xFT) (n := xN) (cells := 0) (slots := 0) (Q := MQ below (xQc g xFT xN P) args s 0 0 (xFr g)) (I := I87 a0 A P) (pc1 := 87) (fun μ i87 => xAt_mono (t_X12_grammar_87 (P := P) X hr i87 h124) (v87 a0 A P h μ))
  have h42 := x_loop1 (p := p) (l := l) (e := e) (R := { frames := 4, cells := 0, slots := 0, locals := 94 }) (s := s) (m := m) (args := args) (below := below) (meth := meth) (c := c) (g := g) (nL := 2) (F := xFT) (n := xN) (cells := 0) (slots := 0) (Q := MQ below (xQc g xFT xN P) args s 0 0 (xFr g)) (I := I42 a0 A P) (pc1 := 42) (fun μ i42 => xAt_mono (t_X12_grammar_42 (P := P) X hr i42 h87) (v42 a0 A P h μ))
  have h19 := x_loop1 (p := p) (l := l) (e := e) (R := { frames := 4, cells := 0, slots := 0, locals := 94 }) (s := s) (m := m) (args := args) (below := below) (meth := meth) (c := c) (g := g) (nL := 2) (F := xFT) (n := xN) (cells := 0) (slots := 0) (Q := MQ below (xQc g xFT xN P) args s 0 0 (xFr g)) (I := I19 a0 A P) (pc1 := 19) (fun μ i19 => xAt_mono (t_X12_grammar_19 (P := P) X hr i19 h42) (v19 a0 A P h μ))
  exact ⟨_, v0 a0 A P h, t_X12_grammar_0 X hr h19⟩
/-- nothing at all -/
def vz : xV := ((0, 0, 0, 0), fun _ => 0, fun _ => 0, fun _ => 0, fun _ => 0, fun _ _ => 0, fun i => i)
def vI (v : xV) : Prop := vD v = 0 ∧ ∀ i, vcl v i = i
theorem lnU_I {v v' : xV} {f : Nat → Nat} {n lim p z : Nat} (hv : vI v) (h : lnU v f n lim p = .inr (v', z)) : vI v' := by
  have hn : ∀ s, nlU v f n lim p s = .inr (v', z) → vI v' := fun s h => by
    unfold nlU at h
    split at h
    · cases h
    · split at h
      · cases h
      · simp only [Sum.inr.injEq, Prod.mk.injEq] at h
        obtain ⟨rfl, -⟩ := h
        cases s
        · exact hv
        · exact hv
  unfold lnU at h
  split at h
  · split at h
    · cases h
    · exact hn _ h
  · split at h
    · split at h
      · cases h
      · exact hn _ h
    · split at h
      · cases h
      · split at h
        · cases h
        · split at h
          · cases h
          · simp only [Sum.inr.injEq, Prod.mk.injEq] at h
            obtain ⟨rfl, -⟩ := h
            exact ⟨hv.1, fun i => rfl⟩
/-- what the reference says is so -/
def isR (A : xH) (v : xV) : Prop := (xi A 182 0 = nI (vS v) ∧ xi A 182 1 = nI (vK v) ∧ xi A 182 2 = nI (vR v) ∧ xi A 182 3 = nI (vD v)) ∧ nmU A 0 v ∧ vR v ≤ 10 ∧ dj v ∧ (∀ r, r < vR v → isRw A 182 (4 + 5 * r) v r) ∧ ∀ i, i < 42 → xi A 182 (54 + i) = nI (vcl v i)

