/-! ===== the class's Sentence, kept or so ===== -/
theorem d_X8_copyFrom_0 : decode cX8_copyFrom 0 = .ok (.aload_n 0, 1) := by decide +kernel
theorem d_X8_copyFrom_1 : decode cX8_copyFrom 1 = .ok (.aload_n 1, 1) := by decide +kernel
theorem d_X8_copyFrom_2 : decode cX8_copyFrom 2 = .ok (.getfield 18, 3) := by decide +kernel
theorem d_X8_copyFrom_5 : decode cX8_copyFrom 5 = .ok (.putfield 18, 3) := by decide +kernel
theorem d_X8_copyFrom_8 : decode cX8_copyFrom 8 = .ok (.aload_n 0, 1) := by decide +kernel
theorem d_X8_copyFrom_9 : decode cX8_copyFrom 9 = .ok (.aload_n 1, 1) := by decide +kernel
theorem d_X8_copyFrom_10 : decode cX8_copyFrom 10 = .ok (.getfield 22, 3) := by decide +kernel
theorem d_X8_copyFrom_13 : decode cX8_copyFrom 13 = .ok (.putfield 22, 3) := by decide +kernel
theorem d_X8_copyFrom_16 : decode cX8_copyFrom 16 = .ok (.aload_n 1, 1) := by decide +kernel
theorem d_X8_copyFrom_17 : decode cX8_copyFrom 17 = .ok (.getfield 9, 3) := by decide +kernel
theorem d_X8_copyFrom_20 : decode cX8_copyFrom 20 = .ok (.iconst 0, 1) := by decide +kernel
theorem d_X8_copyFrom_21 : decode cX8_copyFrom 21 = .ok (.aload_n 0, 1) := by decide +kernel
theorem d_X8_copyFrom_22 : decode cX8_copyFrom 22 = .ok (.getfield 9, 3) := by decide +kernel
theorem d_X8_copyFrom_25 : decode cX8_copyFrom 25 = .ok (.iconst 0, 1) := by decide +kernel
theorem d_X8_copyFrom_26 : decode cX8_copyFrom 26 = .ok (.aload_n 0, 1) := by decide +kernel
theorem d_X8_copyFrom_27 : decode cX8_copyFrom 27 = .ok (.getfield 9, 3) := by decide +kernel
theorem d_X8_copyFrom_30 : decode cX8_copyFrom 30 = .ok (.arraylength, 1) := by decide +kernel
theorem d_X8_copyFrom_31 : decode cX8_copyFrom 31 = .ok (.invokestatic 25, 3) := by decide +kernel
theorem d_X8_copyFrom_34 : decode cX8_copyFrom 34 = .ok (.aload_n 1, 1) := by decide +kernel
theorem d_X8_copyFrom_35 : decode cX8_copyFrom 35 = .ok (.getfield 15, 3) := by decide +kernel
theorem d_X8_copyFrom_38 : decode cX8_copyFrom 38 = .ok (.iconst 0, 1) := by decide +kernel
theorem d_X8_copyFrom_39 : decode cX8_copyFrom 39 = .ok (.aload_n 0, 1) := by decide +kernel
theorem d_X8_copyFrom_40 : decode cX8_copyFrom 40 = .ok (.getfield 15, 3) := by decide +kernel
theorem d_X8_copyFrom_43 : decode cX8_copyFrom 43 = .ok (.iconst 0, 1) := by decide +kernel
theorem d_X8_copyFrom_44 : decode cX8_copyFrom 44 = .ok (.aload_n 0, 1) := by decide +kernel
theorem d_X8_copyFrom_45 : decode cX8_copyFrom 45 = .ok (.getfield 15, 3) := by decide +kernel
theorem d_X8_copyFrom_48 : decode cX8_copyFrom 48 = .ok (.arraylength, 1) := by decide +kernel
theorem d_X8_copyFrom_49 : decode cX8_copyFrom 49 = .ok (.invokestatic 25, 3) := by decide +kernel
theorem d_X8_copyFrom_52 : decode cX8_copyFrom 52 = .ok (.return_, 1) := by decide +kernel
def k_X8_copyFrom_0 (P : xP) : xK := x_aload 0 (x_aload 1 (x_getI xN 8 2 (x_putI xN 8 2 (x_aload 0 (x_aload 1 (x_getI xN 8 3 (x_putI xN 8 3 (x_aload 1 (x_getF xN xFT 8 0 (x_push (.int 0) (x_aload 0 (x_getF xN xFT 8 0 (x_push (.int 0) (x_aload 0 (x_getF xN xFT 8 0 (x_alen xN (x_copyi xN (x_aload 1 (x_getF xN xFT 8 1 (x_push (.int 0) (x_aload 0 (x_getF xN xFT 8 1 (x_push (.int 0) (x_aload 0 (x_getF xN xFT 8 1 (x_alen xN (x_copyi xN (x_vret P))))))))))))))))))))))))))))
set_option maxRecDepth 20000 in
theorem t_X8_copyFrom_0 {p : Program} {l : Launch} {e : Env} {s : State} {m : MethodId} {args : Array Value} {below : List Frame} {meth : Method} {c : Code} {g : xG} (X : xX p s m args c meth cX8_copyFrom RX8 2 g) (hr : meth.sig.returnType = none) {P : xP} : xAt p l e { frames := 1, cells := 0, slots := 0, locals := 100 } s m args below meth c g 2 xFT xN 0 0 (MQ below (xQc g xFT xN P) args s 0 0 (xFr g)) (k_X8_copyFrom_0 P) 0 := by
  unfold k_X8_copyFrom_0
  refine r_aload_n (pc := 0) X d_X8_copyFrom_0 fn0 ?_
  refine r_aload_n (pc := 1) X d_X8_copyFrom_1 fn1 ?_
  refine r_getI (pc := 2) X xok8 (by decide +kernel) (by decide +kernel) fl_RX8_18 d_X8_copyFrom_2 ?_
  refine r_putI (pc := 5) X xok8 (by decide +kernel) (by decide +kernel) (by decide +kernel) (by decide +kernel) fl_RX8_18 d_X8_copyFrom_5 ?_
  refine r_aload_n (pc := 8) X d_X8_copyFrom_8 fn0 ?_
  refine r_aload_n (pc := 9) X d_X8_copyFrom_9 fn1 ?_
  refine r_getI (pc := 10) X xok8 (by decide +kernel) (by decide +kernel) fl_RX8_22 d_X8_copyFrom_10 ?_
  refine r_putI (pc := 13) X xok8 (by decide +kernel) (by decide +kernel) (by decide +kernel) (by decide +kernel) fl_RX8_22 d_X8_copyFrom_13 ?_
  refine r_aload_n (pc := 16) X d_X8_copyFrom_16 fn1 ?_
  refine r_getF (pc := 17) X xok8 (by decide +kernel) (by decide +kernel) fl_RX8_9 d_X8_copyFrom_17 ?_
  refine r_iconst (pc := 20) X d_X8_copyFrom_20 (by decide +kernel) ?_
  refine r_aload_n (pc := 21) X d_X8_copyFrom_21 fn0 ?_
  refine r_getF (pc := 22) X xok8 (by decide +kernel) (by decide +kernel) fl_RX8_9 d_X8_copyFrom_22 ?_
  refine r_iconst (pc := 25) X d_X8_copyFrom_25 (by decide +kernel) ?_
  refine r_aload_n (pc := 26) X d_X8_copyFrom_26 fn0 ?_
  refine r_getF (pc := 27) X xok8 (by decide +kernel) (by decide +kernel) fl_RX8_9 d_X8_copyFrom_27 ?_
  refine r_alen (pc := 30) X d_X8_copyFrom_30 ?_
  refine r_copyi (pc := 31) X rfl ac_RX8_25 (by decide +kernel) (by decide +kernel) d_X8_copyFrom_31 ?_
  refine r_aload_n (pc := 34) X d_X8_copyFrom_34 fn1 ?_
  refine r_getF (pc := 35) X xok8 (by decide +kernel) (by decide +kernel) fl_RX8_15 d_X8_copyFrom_35 ?_
  refine r_iconst (pc := 38) X d_X8_copyFrom_38 (by decide +kernel) ?_
  refine r_aload_n (pc := 39) X d_X8_copyFrom_39 fn0 ?_
  refine r_getF (pc := 40) X xok8 (by decide +kernel) (by decide +kernel) fl_RX8_15 d_X8_copyFrom_40 ?_
  refine r_iconst (pc := 43) X d_X8_copyFrom_43 (by decide +kernel) ?_
  refine r_aload_n (pc := 44) X d_X8_copyFrom_44 fn0 ?_
  refine r_getF (pc := 45) X xok8 (by decide +kernel) (by decide +kernel) fl_RX8_15 d_X8_copyFrom_45 ?_
  refine r_alen (pc := 48) X d_X8_copyFrom_48 ?_
  refine r_copyi (pc := 49) X rfl ac_RX8_25 (by decide +kernel) (by decide +kernel) d_X8_copyFrom_49 ?_
  exact r_vret (pc := 52) X hr d_X8_copyFrom_52
def f_X8_copyFrom (a0 : Nat) (a1 : Nat) (A : xH) (P : xP) : Prop := k_X8_copyFrom_0 P [some (.ref a0), some (.ref a1)] [] A
set_option maxRecDepth 20000 in
theorem con_X8_copyFrom (l : Launch) : xCon l yX8_copyFrom cX8_copyFrom 2 none 1 100 xN xN 0 xFT xFT (w_RR f_X8_copyFrom) :=
  xc_RR (plainFor_of_name pn_RX8) (by decide +kernel) (fun p e s m args below meth c g a0 a1 A P h X hr _ => ⟨_, h, t_X8_copyFrom_0 X hr⟩)
def xSen (c : Nat) : Prop := xob xN c = 8 ∧ xlay c 0 = some (c + 1) ∧ xlay c 1 = some (c + 2) ∧ xtn xN (c + 1) = 1 ∧ xtn xN (c + 2) = 1 ∧ (xsh (c + 1)).2 = 40 ∧ (xsh (c + 2)).2 = 40
theorem xSen_28 : xSen 28 := by unfold xSen; decide +kernel
theorem xSen_164 : xSen 164 := by unfold xSen; decide +kernel
theorem xSen_177 : xSen 177 := by unfold xSen; decide +kernel
/-- a Sentence's code: how many, operation and argument of each, how many ONES -/
def isSn (A : xH) (c n m : Nat) (g h : Nat → Int32) : Prop := n ≤ 40 ∧ m ≤ 40 ∧ xi A c 2 = nI n ∧ xi A c 3 = nI m ∧ ∀ k, k < n → xi A (c + 1) k = g k ∧ xi A (c + 2) k = h k
theorem isSn_fr {S : Nat → Nat → Prop} {A B : xH} {c n m : Nat} {g h : Nat → Int32} (hS : isSn A c n m g h) (hf : fr S A B) (hs : ∀ d k, S d k → ¬ ((d = c ∧ (k = 2 ∨ k = 3)) ∨ d = c + 1 ∨ d = c + 2)) : isSn B c n m g h := by
  obtain ⟨a, b, e, d, z⟩ := hS
  refine ⟨a, b, (fr_i hf fun q => hs _ _ q (by omega)).trans e, (fr_i hf fun q => hs _ _ q (by omega)).trans d, fun k hk => ⟨(fr_i hf fun q => hs _ _ q (by omega)).trans (z k hk).1, (fr_i hf fun q => hs _ _ q (by omega)).trans (z k hk).2⟩⟩
theorem fr_cpi {S : Nat → Nat → Prop} {A B : xH} {q d sp dp k : Nat} (h : fr S A B) (hs : ∀ j, S d j) : fr S A (xcpi B q d sp dp k) := by
  intro c j n
  have hne : c ≠ d := fun e => n (by subst e; exact hs j)
  have := h c j n
  refine ⟨?_, this.2⟩
  rw [← this.1]
  show xi (xcpi B q d sp dp k) c j = xi B c j
  exact cpi_ne hne
theorem sent_C {A : xH} {P : xP} {b o n m : Nat} {g h : Nat → Int32} (hb : xSen b) (ho : xSen o) (hd : b + 3 ≤ o ∨ o + 3 ≤ b) (hS : isSn A o n m g h) (hP : ∀ B, fr (fun c k => (c = b ∧ (k = 2 ∨ k = 3)) ∨ c = b + 1 ∨ c = b + 2) A B → isSn B b n m g h → P none B) : f_X8_copyFrom b o A P := by
  obtain ⟨b1, b2, b3, b4, b5, b6, b7⟩ := hb
  obtain ⟨o1, o2, o3, o4, o5, o6, o7⟩ := ho
  obtain ⟨s1, s2, s3, s4, s5⟩ := hS
  unfold f_X8_copyFrom
  simp only [k_X8_copyFrom_0, x_alen, x_aload, x_copyi, x_getF, x_getI, x_push, x_putI, x_vret, xFT, xbool0, xbool1, Nat.reduceAdd, Nat.zero_add, xgl_0, xgl_s, xgl_n, xst_0, xst_1n, xst_1i, xst_1r, xst_1l, xst_s, set_0, set_s, true_and, and_true, xres, xcat_nil, xcat_i, xcat_r, xcat_l, Nat.add_zero, xble0, xble1, xble2, xble3, xble4, xble5, xble6, xble7, xble8, b1, b2, b3, b4, b5, b6, b7, o1, o2, o3, o4, o5, o6, o7, xcpOK]
  refine ⟨by decide +kernel, by decide +kernel, ⟨by decide +kernel, by decide +kernel, by decide +kernel, by decide +kernel, by decide +kernel⟩, by decide +kernel, by decide +kernel, ⟨by decide +kernel, by decide +kernel, by decide +kernel, by decide +kernel, by decide +kernel⟩, ?_⟩
  simp only [show Int32.toNatClampNeg 0 = 0 from rfl, show (Int32.ofNat 40).toNatClampNeg = 40 from by decide +kernel]
  refine hP _ (fr_cpi (fr_cpi (fr_si (fr_si fr_rf (by omega)) (by omega)) (by omega)) (by omega)) ⟨s1, s2, ?_, ?_, fun k hk => ⟨?_, ?_⟩⟩
  · simp (disch := omega) only [cpi_ne, cpi_eq, si_ne, si_eq]; exact s3
  · simp (disch := omega) only [cpi_ne, cpi_eq, si_ne, si_eq]; exact s4
  · simp (disch := omega) only [cpi_ne, cpi_eq, si_ne, si_eq]; exact (s5 k hk).1
  · simp (disch := omega) only [cpi_ne, cpi_eq, si_ne, si_eq]; exact (s5 k hk).2
theorem d_X8_emit_0 : decode cX8_emit 0 = .ok (.aload_n 0, 1) := by decide +kernel
theorem d_X8_emit_1 : decode cX8_emit 1 = .ok (.getfield 18, 3) := by decide +kernel
theorem d_X8_emit_4 : decode cX8_emit 4 = .ok (.aload_n 0, 1) := by decide +kernel
theorem d_X8_emit_5 : decode cX8_emit 5 = .ok (.getfield 9, 3) := by decide +kernel
theorem d_X8_emit_8 : decode cX8_emit 8 = .ok (.arraylength, 1) := by decide +kernel
theorem d_X8_emit_9 : decode cX8_emit 9 = .ok (.if_icmp .ge 33, 3) := by decide +kernel
theorem d_X8_emit_12 : decode cX8_emit 12 = .ok (.aload_n 0, 1) := by decide +kernel
theorem d_X8_emit_13 : decode cX8_emit 13 = .ok (.getfield 9, 3) := by decide +kernel
theorem d_X8_emit_16 : decode cX8_emit 16 = .ok (.aload_n 0, 1) := by decide +kernel
theorem d_X8_emit_17 : decode cX8_emit 17 = .ok (.getfield 18, 3) := by decide +kernel
theorem d_X8_emit_20 : decode cX8_emit 20 = .ok (.iload_n 1, 1) := by decide +kernel
theorem d_X8_emit_21 : decode cX8_emit 21 = .ok (.iastore, 1) := by decide +kernel
theorem d_X8_emit_22 : decode cX8_emit 22 = .ok (.aload_n 0, 1) := by decide +kernel
theorem d_X8_emit_23 : decode cX8_emit 23 = .ok (.getfield 15, 3) := by decide +kernel
theorem d_X8_emit_26 : decode cX8_emit 26 = .ok (.aload_n 0, 1) := by decide +kernel
theorem d_X8_emit_27 : decode cX8_emit 27 = .ok (.getfield 18, 3) := by decide +kernel
theorem d_X8_emit_30 : decode cX8_emit 30 = .ok (.iload_n 2, 1) := by decide +kernel
theorem d_X8_emit_31 : decode cX8_emit 31 = .ok (.iastore, 1) := by decide +kernel
theorem d_X8_emit_32 : decode cX8_emit 32 = .ok (.aload_n 0, 1) := by decide +kernel
theorem d_X8_emit_33 : decode cX8_emit 33 = .ok (.dup, 1) := by decide +kernel
theorem d_X8_emit_34 : decode cX8_emit 34 = .ok (.getfield 18, 3) := by decide +kernel
theorem d_X8_emit_37 : decode cX8_emit 37 = .ok (.iconst 1, 1) := by decide +kernel
theorem d_X8_emit_38 : decode cX8_emit 38 = .ok (.iadd, 1) := by decide +kernel
theorem d_X8_emit_39 : decode cX8_emit 39 = .ok (.putfield 18, 3) := by decide +kernel
theorem d_X8_emit_42 : decode cX8_emit 42 = .ok (.return_, 1) := by decide +kernel
def k_X8_emit_42 (P : xP) : xK := x_vret P
set_option maxRecDepth 20000 in
theorem t_X8_emit_42 {p : Program} {l : Launch} {e : Env} {s : State} {m : MethodId} {args : Array Value} {below : List Frame} {meth : Method} {c : Code} {g : xG} (X : xX p s m args c meth cX8_emit RX8 3 g) (hr : meth.sig.returnType = none) {P : xP} : xAt p l e { frames := 0, cells := 0, slots := 0, locals := 0 } s m args below meth c g 3 xFT xN 0 0 (MQ below (xQc g xFT xN P) args s 0 0 (xFr g)) (k_X8_emit_42 P) 42 := by
  unfold k_X8_emit_42
  exact r_vret (pc := 42) X hr d_X8_emit_42
def k_X8_emit_0 (P : xP) : xK := x_aload 0 (x_getI xN 8 2 (x_aload 0 (x_getF xN xFT 8 0 (x_alen xN (x_icmp_ge ((k_X8_emit_42 P)) (x_aload 0 (x_getF xN xFT 8 0 (x_aload 0 (x_getI xN 8 2 (x_iload 1 (x_iast xN (x_aload 0 (x_getF xN xFT 8 1 (x_aload 0 (x_getI xN 8 2 (x_iload 2 (x_iast xN (x_aload 0 (x_dup (x_getI xN 8 2 (x_push (.int 1) (x_iadd (x_putI xN 8 2 ((k_X8_emit_42 P)))))))))))))))))))))))))
set_option maxRecDepth 20000 in
theorem t_X8_emit_0 {p : Program} {l : Launch} {e : Env} {s : State} {m : MethodId} {args : Array Value} {below : List Frame} {meth : Method} {c : Code} {g : xG} (X : xX p s m args c meth cX8_emit RX8 3 g) (hr : meth.sig.returnType = none) {P : xP} : xAt p l e { frames := 0, cells := 0, slots := 0, locals := 0 } s m args below meth c g 3 xFT xN 0 0 (MQ below (xQc g xFT xN P) args s 0 0 (xFr g)) (k_X8_emit_0 P) 0 := by
  unfold k_X8_emit_0
  refine r_aload_n (pc := 0) X d_X8_emit_0 fn0 ?_
  refine r_getI (pc := 1) X xok8 (by decide +kernel) (by decide +kernel) fl_RX8_18 d_X8_emit_1 ?_
  refine r_aload_n (pc := 4) X d_X8_emit_4 fn0 ?_
  refine r_getF (pc := 5) X xok8 (by decide +kernel) (by decide +kernel) fl_RX8_9 d_X8_emit_5 ?_
  refine r_alen (pc := 8) X d_X8_emit_8 ?_
  refine r_icmp_ge (pc := 9) (tgt := 42) X d_X8_emit_9 (by decide +kernel) ?_ ?_
  · exact t_X8_emit_42 X hr
  · refine r_aload_n (pc := 12) X d_X8_emit_12 fn0 ?_
    refine r_getF (pc := 13) X xok8 (by decide +kernel) (by decide +kernel) fl_RX8_9 d_X8_emit_13 ?_
    refine r_aload_n (pc := 16) X d_X8_emit_16 fn0 ?_
    refine r_getI (pc := 17) X xok8 (by decide +kernel) (by decide +kernel) fl_RX8_18 d_X8_emit_17 ?_
    refine r_iload_n (pc := 20) X d_X8_emit_20 fn1 ?_
    refine r_iast (pc := 21) X d_X8_emit_21 ?_
    refine r_aload_n (pc := 22) X d_X8_emit_22 fn0 ?_
    refine r_getF (pc := 23) X xok8 (by decide +kernel) (by decide +kernel) fl_RX8_15 d_X8_emit_23 ?_
    refine r_aload_n (pc := 26) X d_X8_emit_26 fn0 ?_
    refine r_getI (pc := 27) X xok8 (by decide +kernel) (by decide +kernel) fl_RX8_18 d_X8_emit_27 ?_
    refine r_iload_n (pc := 30) X d_X8_emit_30 fn2 ?_
    refine r_iast (pc := 31) X d_X8_emit_31 ?_
    refine r_aload_n (pc := 32) X d_X8_emit_32 fn0 ?_
    refine r_dup (pc := 33) X d_X8_emit_33 ?_
    refine r_getI (pc := 34) X xok8 (by decide +kernel) (by decide +kernel) fl_RX8_18 d_X8_emit_34 ?_
    refine r_iconst (pc := 37) X d_X8_emit_37 (by decide +kernel) ?_
    refine r_iadd (pc := 38) X d_X8_emit_38 ?_
    refine r_putI (pc := 39) X xok8 (by decide +kernel) (by decide +kernel) (by decide +kernel) (by decide +kernel) fl_RX8_18 d_X8_emit_39 ?_
    exact t_X8_emit_42 X hr
def f_X8_emit (a0 : Nat) (a1 : Int32) (a2 : Int32) (A : xH) (P : xP) : Prop := k_X8_emit_0 P [some (.ref a0), some (.int a1), some (.int a2)] [] A
set_option maxRecDepth 20000 in
theorem con_X8_emit (l : Launch) : xCon l yX8_emit cX8_emit 3 none 0 0 xN xN 0 xFT xFT (w_RII f_X8_emit) :=
  xc_RII (plainFor_of_name pn_RX8) (by decide +kernel) (fun p e s m args below meth c g a0 a1 a2 A P h X hr _ => ⟨_, h, t_X8_emit_0 X hr⟩)
theorem emit_C {A : xH} {P : xP} {c n m : Nat} {g h : Nat → Int32} {x y : Int32} (hc : xSen c) (hS : isSn A c n m g h) (hn : n < 40) (hP : ∀ B, fr (fun d k => (d = c ∧ k = 2) ∨ d = c + 1 ∨ d = c + 2) A B → isSn B c (n + 1) m (fun k => if k = n then x else g k) (fun k => if k = n then y else h k) → P none B) : f_X8_emit c x y A P := by
  obtain ⟨b1, b2, b3, b4, b5, b6, b7⟩ := hc
  obtain ⟨s1, s2, s3, s4, s5⟩ := hS
  unfold f_X8_emit
  simp (disch := omega) only [k_X8_emit_0, k_X8_emit_42, x_alen, x_aload, x_dup, x_getF, x_getI, x_iadd, x_iast, x_icmp_ge, x_iload, x_push, x_putI, x_vret, xFT, xbool0, xbool1, Nat.reduceAdd, Nat.zero_add, xgl_0, xgl_s, xgl_n, xst_0, xst_1n, xst_1i, xst_1r, xst_1l, xst_s, set_0, set_s, true_and, and_true, xres, xcat_nil, xcat_i, xcat_r, xcat_l, Nat.add_zero, xble0, xble1, xble2, xble3, xble4, xble5, xble6, xble7, xble8, pk_mul, nI_add, nI_1, nI_leI, nI_ltI, nI_eq, n_in, n_cl, z_eq, z_lt, z_le, z_gt, z_ge, z_qe, o_eq, o_lt, o_le, o_gt, o_ge, vp0, vp1, cl0, cl1, n_sub, n_sub1, n_pm1, n_a0, n_0a, ofn, lN0, Nat.reduceLT, Nat.reduceLeDiff, Nat.reduceMul, Nat.reduceSub, Nat.reduceEqDiff, ne_eq, true_implies, false_implies, not_true_eq_false, not_false_eq_true, and_self, and_true, true_and, and_false, false_and, implies_true, if_true, if_false, i00, i10, i01, i11, ob_0, ob_1, tn_2, ln_2, ob_3, tn_4, ln_4, ob_5, tn_6, ln_6, tn_7, ln_7, ob_8, tn_9, ln_9, tn_10, ln_10, tn_11, ln_11, tn_12, ln_12, tn_13, ln_13, tn_14, ln_14, tn_15, ln_15, tn_16, ln_16, tn_17, ln_17, ob_18, tn_19, ln_19, tn_20, ln_20, tn_21, ln_21, tn_22, ln_22, tn_23, ln_23, tn_24, ln_24, tn_25, ln_25, tn_26, ln_26, tn_27, ln_27, ob_28, tn_29, ln_29, tn_30, ln_30, ob_31, tn_32, ln_32, tn_33, ln_33, ob_34, ob_35, tn_36, ln_36, tn_37, ln_37, tn_38, ln_38, ob_39, tn_40, ln_40, tn_41, ln_41, tn_42, ln_42, tn_43, ln_43, tn_44, ln_44, tn_45, ln_45, tn_46, ln_46, tn_47, ln_47, tn_48, ln_48, tn_49, ln_49, tn_50, ln_50, tn_51, ln_51, ob_52, tn_53, ln_53, tn_54, ln_54, tn_55, ln_55, tn_56, ln_56, ob_57, tn_58, ln_58, tn_59, ln_59, tn_60, ln_60, tn_61, ln_61, tn_62, ln_62, tn_63, ln_63, tn_64, ln_64, tn_65, ln_65, ob_66, tn_67, ln_67, tn_68, ln_68, tn_69, ln_69, tn_70, ln_70, tn_71, ln_71, tn_72, ln_72, tn_73, ln_73, ob_74, tn_75, ln_75, tn_76, ln_76, tn_77, ln_77, tn_78, ln_78, tn_79, ln_79, tn_80, ln_80, tn_81, ln_81, tn_82, ln_82, tn_83, ln_83, ob_84, tn_85, ln_85, tn_86, ln_86, tn_87, ln_87, tn_88, ln_88, tn_89, ln_89, tn_90, ln_90, tn_91, ln_91, tn_92, ln_92, tn_93, ln_93, ob_94, tn_95, ln_95, tn_96, ln_96, tn_97, ln_97, tn_98, ln_98, tn_99, ln_99, tn_100, ln_100, tn_101, ln_101, tn_102, ln_102, tn_103, ln_103, ob_104, tn_105, ln_105, tn_106, ln_106, tn_107, ln_107, tn_108, ln_108, tn_109, ln_109, tn_110, ln_110, tn_111, ln_111, tn_112, ln_112, tn_113, ln_113, ob_114, tn_115, ln_115, tn_116, ln_116, tn_117, ln_117, tn_118, ln_118, tn_119, ln_119, tn_120, ln_120, tn_121, ln_121, tn_122, ln_122, tn_123, ln_123, ob_124, tn_125, ln_125, tn_126, ln_126, tn_127, ln_127, tn_128, ln_128, tn_129, ln_129, tn_130, ln_130, tn_131, ln_131, tn_132, ln_132, tn_133, ln_133, ob_134, tn_135, ln_135, tn_136, ln_136, tn_137, ln_137, tn_138, ln_138, tn_139, ln_139, tn_140, ln_140, tn_141, ln_141, tn_142, ln_142, tn_143, ln_143, ob_144, tn_145, ln_145, tn_146, ln_146, tn_147, ln_147, tn_148, ln_148, tn_149, ln_149, tn_150, ln_150, tn_151, ln_151, tn_152, ln_152, tn_153, ln_153, ob_154, tn_155, ln_155, tn_156, ln_156, tn_157, ln_157, tn_158, ln_158, tn_159, ln_159, tn_160, ln_160, tn_161, ln_161, tn_162, ln_162, tn_163, ln_163, ob_164, tn_165, ln_165, tn_166, ln_166, ob_167, tn_168, ln_168, tn_169, ln_169, tn_170, ln_170, tn_171, ln_171, tn_172, ln_172, tn_173, ln_173, tn_174, ln_174, tn_175, ln_175, tn_176, ln_176, ob_177, tn_178, ln_178, tn_179, ln_179, ob_180, tn_181, ln_181, tn_182, ln_182, tn_183, ln_183, tn_184, ln_184, tn_185, ln_185, tn_186, ln_186, tn_187, ln_187, tn_188, ln_188, tn_189, ln_189, tn_190, ln_190, tn_191, ln_191, tn_192, ln_192, tn_193, ln_193, tn_194, ln_194, tn_195, ln_195, tn_196, ln_196, tn_197, ln_197, tn_198, ln_198, tn_199, ln_199, tn_200, ln_200, tn_201, ln_201, tn_202, ln_202, tn_203, ln_203, tn_204, ln_204, tn_205, ln_205, tn_206, ln_206, tn_207, ln_207, tn_208, ln_208, tn_209, ln_209, tn_210, ln_210, tn_211, ln_211, tn_212, ln_212, tn_213, ln_213, tn_214, ln_214, tn_215, ln_215, tn_216, ln_216, tn_217, ln_217, tn_218, ln_218, tn_219, ln_219, tn_220, ln_220, tn_221, ln_221, tn_222, ln_222, tn_223, ln_223, tn_224, ln_224, tn_225, ln_225, tn_226, ln_226, tn_227, ln_227, tn_228, ln_228, tn_229, ln_229, tn_230, ln_230, lx2, lx3, lx4, lx5, lx6, lx7, lx8, lx9, lx10, lx14, lx15, lx16, lx18, lx20, lx24, lx25, lx27, lx32, lx36, lx40, lx41, lx42, lx43, lx45, lx48, lx52, lx54, lx56, lx57, lx58, lx60, lx61, lx62, lx63, lx64, lx66, lx69, lx73, lx80, lx81, lx84, lx85, lx87, lx94, lx96, lx97, lx120, lx128, lx135, lx160, lx162, lx163, lx165, lx200, lx232, lx242, lx243, lx255, lx256, lx320, lx325, lx400, lx405, lx464, lx512, lx600, lx640, lx752, lx900, lx940, lx1000, lx1024, lx1764, lx3360, lx3840, lx5000, lx6400, lx9050, lx9998, lx9999, lx10000, lx25600, lx76800, lx99999, si_ne, si_eq, sl_ne, sl_eq, xl_si, xi_sl, sA_ne, sA_eq, xl_sA, b1, b2, b3, b4, b5, b6, b7, s3]
  refine ⟨fun q => absurd hn (by omega), fun _ => ⟨hn, hn, hP _ (fr_si (fr_si (fr_si fr_rf (by omega)) (by omega)) (by omega)) ⟨by omega, s2, si_eq, ?_, fun k hk => ?_⟩⟩⟩
  · simp (disch := omega) only [si_ne]; exact s4
  · try dsimp only
    by_cases e : k = n
    · subst e
      rw [if_pos rfl, if_pos rfl]
      exact ⟨by simp (disch := omega) only [si_ne, si_eq], by simp (disch := omega) only [si_ne, si_eq]⟩
    · rw [if_neg e, if_neg e]
      exact ⟨by simp (disch := omega) only [si_ne]; exact (s5 k (by omega)).1, by simp (disch := omega) only [si_ne]; exact (s5 k (by omega)).2⟩

