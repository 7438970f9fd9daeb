theorem d_J9_max_7cf53_0 : decode cJ9_max_7cf53 0 = .ok (.iload_n 0, 1) := by decide +kernel
theorem d_J9_max_7cf53_1 : decode cJ9_max_7cf53 1 = .ok (.iload_n 1, 1) := by decide +kernel
theorem d_J9_max_7cf53_2 : decode cJ9_max_7cf53 2 = .ok (.if_icmp .lt 7, 3) := by decide +kernel
theorem d_J9_max_7cf53_5 : decode cJ9_max_7cf53 5 = .ok (.iload_n 0, 1) := by decide +kernel
theorem d_J9_max_7cf53_6 : decode cJ9_max_7cf53 6 = .ok (.goto 4, 3) := by decide +kernel
theorem d_J9_max_7cf53_9 : decode cJ9_max_7cf53 9 = .ok (.iload_n 1, 1) := by decide +kernel
theorem d_J9_max_7cf53_10 : decode cJ9_max_7cf53 10 = .ok (.ireturn, 1) := by decide +kernel
def k_J9_max_7cf53_10 (P : xP) : xK := x_iret P
set_option maxRecDepth 20000 in
theorem t_J9_max_7cf53_10 {p : Program} {l : Launch} {e : Env} {s : State} {m : MethodId} {args : Array Value} {below : List Frame} {meth : Method} {c : Code} {g : xG} (X : xX p s m args c meth cJ9_max_7cf53 RJ9 2 g) (hr : meth.sig.returnType = (some .int)) {P : xP} : xAt p l e { frames := 0, cells := 0, slots := 0, locals := 0 } s m args below meth c g 2 xFT xN 0 0 (MQ below (xQc g xFT xN P) args s 0 0 (xFr g)) (k_J9_max_7cf53_10 P) 10 := by
  unfold k_J9_max_7cf53_10
  exact r_iret (pc := 10) X hr d_J9_max_7cf53_10
def k_J9_max_7cf53_0 (P : xP) : xK := x_iload 0 (x_iload 1 (x_icmp_lt (x_iload 1 ((k_J9_max_7cf53_10 P))) (x_iload 0 ((k_J9_max_7cf53_10 P)))))
set_option maxRecDepth 20000 in
theorem t_J9_max_7cf53_0 {p : Program} {l : Launch} {e : Env} {s : State} {m : MethodId} {args : Array Value} {below : List Frame} {meth : Method} {c : Code} {g : xG} (X : xX p s m args c meth cJ9_max_7cf53 RJ9 2 g) (hr : meth.sig.returnType = (some .int)) {P : xP} : xAt p l e { frames := 0, cells := 0, slots := 0, locals := 0 } s m args below meth c g 2 xFT xN 0 0 (MQ below (xQc g xFT xN P) args s 0 0 (xFr g)) (k_J9_max_7cf53_0 P) 0 := by
  unfold k_J9_max_7cf53_0
  refine r_iload_n (pc := 0) X d_J9_max_7cf53_0 fn0 ?_
  refine r_iload_n (pc := 1) X d_J9_max_7cf53_1 fn1 ?_
  refine r_icmp_lt (pc := 2) (tgt := 9) X d_J9_max_7cf53_2 (by decide +kernel) ?_ ?_
  · refine r_iload_n (pc := 9) X d_J9_max_7cf53_9 fn1 ?_
    exact t_J9_max_7cf53_10 X hr
  · refine r_iload_n (pc := 5) X d_J9_max_7cf53_5 fn0 ?_
    refine r_goto (pc := 6) (tgt := 10) X d_J9_max_7cf53_6 (by decide +kernel) ?_
    exact t_J9_max_7cf53_10 X hr
def f_J9_max_7cf53 (a0 : Int32) (a1 : Int32) (A : xH) (P : xP) : Prop := k_J9_max_7cf53_0 P [some (.int a0), some (.int a1)] [] A
set_option maxRecDepth 20000 in
theorem con_J9_max_7cf53 (l : Launch) : xCon l yJ9_max_7cf53 cJ9_max_7cf53 2 (some .int) 0 0 xN xN 0 xFT xFT (w_II f_J9_max_7cf53) :=
  xc_II (by decide +kernel) (by decide +kernel) (fun p e s m args below meth c g a0 a1 A P h X hr _ => ⟨_, h, t_J9_max_7cf53_0 X hr⟩)
theorem d_J9_min_7cf53_0 : decode cJ9_min_7cf53 0 = .ok (.iload_n 0, 1) := by decide +kernel
theorem d_J9_min_7cf53_1 : decode cJ9_min_7cf53 1 = .ok (.iload_n 1, 1) := by decide +kernel
theorem d_J9_min_7cf53_2 : decode cJ9_min_7cf53 2 = .ok (.if_icmp .gt 7, 3) := by decide +kernel
theorem d_J9_min_7cf53_5 : decode cJ9_min_7cf53 5 = .ok (.iload_n 0, 1) := by decide +kernel
theorem d_J9_min_7cf53_6 : decode cJ9_min_7cf53 6 = .ok (.goto 4, 3) := by decide +kernel
theorem d_J9_min_7cf53_9 : decode cJ9_min_7cf53 9 = .ok (.iload_n 1, 1) := by decide +kernel
theorem d_J9_min_7cf53_10 : decode cJ9_min_7cf53 10 = .ok (.ireturn, 1) := by decide +kernel
def k_J9_min_7cf53_10 (P : xP) : xK := x_iret P
set_option maxRecDepth 20000 in
theorem t_J9_min_7cf53_10 {p : Program} {l : Launch} {e : Env} {s : State} {m : MethodId} {args : Array Value} {below : List Frame} {meth : Method} {c : Code} {g : xG} (X : xX p s m args c meth cJ9_min_7cf53 RJ9 2 g) (hr : meth.sig.returnType = (some .int)) {P : xP} : xAt p l e { frames := 0, cells := 0, slots := 0, locals := 0 } s m args below meth c g 2 xFT xN 0 0 (MQ below (xQc g xFT xN P) args s 0 0 (xFr g)) (k_J9_min_7cf53_10 P) 10 := by
  unfold k_J9_min_7cf53_10
  exact r_iret (pc := 10) X hr d_J9_min_7cf53_10
def k_J9_min_7cf53_0 (P : xP) : xK := x_iload 0 (x_iload 1 (x_icmp_gt (x_iload 1 ((k_J9_min_7cf53_10 P))) (x_iload 0 ((k_J9_min_7cf53_10 P)))))
set_option maxRecDepth 20000 in
theorem t_J9_min_7cf53_0 {p : Program} {l : Launch} {e : Env} {s : State} {m : MethodId} {args : Array Value} {below : List Frame} {meth : Method} {c : Code} {g : xG} (X : xX p s m args c meth cJ9_min_7cf53 RJ9 2 g) (hr : meth.sig.returnType = (some .int)) {P : xP} : xAt p l e { frames := 0, cells := 0, slots := 0, locals := 0 } s m args below meth c g 2 xFT xN 0 0 (MQ below (xQc g xFT xN P) args s 0 0 (xFr g)) (k_J9_min_7cf53_0 P) 0 := by
  unfold k_J9_min_7cf53_0
  refine r_iload_n (pc := 0) X d_J9_min_7cf53_0 fn0 ?_
  refine r_iload_n (pc := 1) X d_J9_min_7cf53_1 fn1 ?_
  refine r_icmp_gt (pc := 2) (tgt := 9) X d_J9_min_7cf53_2 (by decide +kernel) ?_ ?_
  · refine r_iload_n (pc := 9) X d_J9_min_7cf53_9 fn1 ?_
    exact t_J9_min_7cf53_10 X hr
  · refine r_iload_n (pc := 5) X d_J9_min_7cf53_5 fn0 ?_
    refine r_goto (pc := 6) (tgt := 10) X d_J9_min_7cf53_6 (by decide +kernel) ?_
    exact t_J9_min_7cf53_10 X hr
def f_J9_min_7cf53 (a0 : Int32) (a1 : Int32) (A : xH) (P : xP) : Prop := k_J9_min_7cf53_0 P [some (.int a0), some (.int a1)] [] A
set_option maxRecDepth 20000 in
theorem con_J9_min_7cf53 (l : Launch) : xCon l yJ9_min_7cf53 cJ9_min_7cf53 2 (some .int) 0 0 xN xN 0 xFT xFT (w_II f_J9_min_7cf53) :=
  xc_II (by decide +kernel) (by decide +kernel) (fun p e s m args below meth c g a0 a1 A P h X hr _ => ⟨_, h, t_J9_min_7cf53_0 X hr⟩)
theorem f_min {a b : Int32} {A : xH} {P : xP} : f_J9_min_7cf53 a b A P ↔ P (some (.int (if a ≤ b then a else b))) A := by
  unfold f_J9_min_7cf53
  simp only [k_J9_min_7cf53_0, k_J9_min_7cf53_10, x_icmp_gt, x_iload, x_iret, xFT, Nat.reduceAdd, Nat.zero_add, xgl_0, xgl_s, xgl_n, xst_0, xst_1n, xst_1i, xst_1r, xst_1l, xst_s, set_0, set_s, true_and, and_true, xres, Nat.add_zero]
  by_cases h : a ≤ b
  · simp [h, Int32.not_lt.mpr h]
  · simp [h, Int32.not_le.mp h]
theorem f_max {a b : Int32} {A : xH} {P : xP} : f_J9_max_7cf53 a b A P ↔ P (some (.int (if a < b then b else a))) A := by
  unfold f_J9_max_7cf53
  simp only [k_J9_max_7cf53_0, k_J9_max_7cf53_10, x_icmp_lt, x_iload, x_iret, xFT, Nat.reduceAdd, Nat.zero_add, xgl_0, xgl_s, xgl_n, xst_0, xst_1n, xst_1i, xst_1r, xst_1l, xst_s, set_0, set_s, true_and, and_true, xres, Nat.add_zero]
  by_cases h : a < b <;> simp [h]

