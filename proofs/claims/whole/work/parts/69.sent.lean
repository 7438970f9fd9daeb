/-! ===== the class's Sentence, kept or so ===== -/
theorem d_X8_copyFrom_0 : decode cX8_copyFrom 0 = .ok (.aload_n 0, 1) := by decide +kernel
theorem d_X8_copyFrom_1 : decode cX8_copyFrom 1 = .ok (.aload_n 1, 1) := by decide +kernel
theorem d_X8_copyFrom_2 : decode cX8_copyFrom 2 = .ok (.getfield 18, 3) := by decide +kernel
theorem d_X8_copyFrom_5 : decode cX8_copyFrom 5 = .ok (.putfield 18, 3) := by decide +kernel
theorem d_X8_copyFrom_8 : decode cX8_copyFrom 8 = .ok (.aload_n 0, 1) := by decide +kernel
theorem d_X8_copyFrom_9 : decode cX8_copyFrom 9 = .ok (.aload_n 1, 1) := by decide +kernel
theorem d_X8_copyFrom_10 : decode cX8_copyFrom 10 = .ok (.getfield 22, 3) := by decide +kernel
theorem d_X8_copyFrom_13 : decode cX8_copyFrom 13 = .ok (.putfield 22, 3) := by decide +kernel
theorem d_X8_copyFrom_16 : decode cX8_copyFrom 16 = .ok (.aload_n 1, 1) := by decide +kernel
theorem d_X8_copyFrom_17 : decode cX8_copyFrom 17 = .ok (.getfield 9, 3) := by decide +kernel
theorem d_X8_copyFrom_20 : decode cX8_copyFrom 20 = .ok (.iconst 0, 1) := by decide +kernel
theorem d_X8_copyFrom_21 : decode cX8_copyFrom 21 = .ok (.aload_n 0, 1) := by decide +kernel
theorem d_X8_copyFrom_22 : decode cX8_copyFrom 22 = .ok (.getfield 9, 3) := by decide +kernel
theorem d_X8_copyFrom_25 : decode cX8_copyFrom 25 = .ok (.iconst 0, 1) := by decide +kernel
theorem d_X8_copyFrom_26 : decode cX8_copyFrom 26 = .ok (.aload_n 0, 1) := by decide +kernel
theorem d_X8_copyFrom_27 : decode cX8_copyFrom 27 = .ok (.getfield 9, 3) := by decide +kernel
theorem d_X8_copyFrom_30 : decode cX8_copyFrom 30 = .ok (.arraylength, 1) := by decide +kernel
theorem d_X8_copyFrom_31 : decode cX8_copyFrom 31 = .ok (.invokestatic 25, 3) := by decide +kernel
theorem d_X8_copyFrom_34 : decode cX8_copyFrom 34 = .ok (.aload_n 1, 1) := by decide +kernel
theorem d_X8_copyFrom_35 : decode cX8_copyFrom 35 = .ok (.getfield 15, 3) := by decide +kernel
theorem d_X8_copyFrom_38 : decode cX8_copyFrom 38 = .ok (.iconst 0, 1) := by decide +kernel
theorem d_X8_copyFrom_39 : decode cX8_copyFrom 39 = .ok (.aload_n 0, 1) := by decide +kernel
theorem d_X8_copyFrom_40 : decode cX8_copyFrom 40 = .ok (.getfield 15, 3) := by decide +kernel
theorem d_X8_copyFrom_43 : decode cX8_copyFrom 43 = .ok (.iconst 0, 1) := by decide +kernel
theorem d_X8_copyFrom_44 : decode cX8_copyFrom 44 = .ok (.aload_n 0, 1) := by decide +kernel
theorem d_X8_copyFrom_45 : decode cX8_copyFrom 45 = .ok (.getfield 15, 3) := by decide +kernel
theorem d_X8_copyFrom_48 : decode cX8_copyFrom 48 = .ok (.arraylength, 1) := by decide +kernel
theorem d_X8_copyFrom_49 : decode cX8_copyFrom 49 = .ok (.invokestatic 25, 3) := by decide +kernel
theorem d_X8_copyFrom_52 : decode cX8_copyFrom 52 = .ok (.return_, 1) := by decide +kernel
def k_X8_copyFrom_0 (P : xP) : xK := x_aload 0 (x_aload 1 (x_getI xN 8 2 (x_putI xN 8 2 (x_aload 0 (x_aload 1 (x_getI xN 8 3 (x_putI xN 8 3 (x_aload 1 (x_getF xN xFT 8 0 (x_push (.int 0) (x_aload 0 (x_getF xN xFT 8 0 (x_push (.int 0) (x_aload 0 (x_getF xN xFT 8 0 (x_alen xN (x_copyi xN (x_aload 1 (x_getF xN xFT 8 1 (x_push (.int 0) (x_aload 0 (x_getF xN xFT 8 1 (x_push (.int 0) (x_aload 0 (x_getF xN xFT 8 1 (x_alen xN (x_copyi xN (x_vret P))))))))))))))))))))))))))))
set_option maxRecDepth 20000 in
theorem t_X8_copyFrom_0 {p : Program} {l : Launch} {e : Env} {s : State} {m : MethodId} {args : Array Value} {below : List Frame} {meth : Method} {c : Code} {g : xG} (X : xX p s m args c meth cX8_copyFrom RX8 2 g) (hr : meth.sig.returnType = none) {P : xP} : xAt p l e { frames := 1, cells := 0, slots := 0, locals := 100 } s m args below meth c g 2 xFT xN 0 0 (MQ below (xQc g xFT xN P) args s 0 0 (xFr g)) (k_X8_copyFrom_0 P) 0 := by
  unfold k_X8_copyFrom_0
  refine r_aload_n (pc := 0) X d_X8_copyFrom_0 fn0 ?_
  refine r_aload_n (pc := 1) X d_X8_copyFrom_1 fn1 ?_
  refine r_getI (pc := 2) X xok8 (by decide +kernel) (by decide +kernel) fl_RX8_18 d_X8_copyFrom_2 ?_
  refine r_putI (pc := 5) X xok8 (by decide +kernel) (by decide +kernel) (by decide +kernel) (by decide +kernel) fl_RX8_18 d_X8_copyFrom_5 ?_
  refine r_aload_n (pc := 8) X d_X8_copyFrom_8 fn0 ?_
  refine r_aload_n (pc := 9) X d_X8_copyFrom_9 fn1 ?_
  refine r_getI (pc := 10) X xok8 (by decide +kernel) (by decide +kernel) fl_RX8_22 d_X8_copyFrom_10 ?_
  refine r_putI (pc := 13) X xok8 (by decide +kernel) (by decide +kernel) (by decide +kernel) (by decide +kernel) fl_RX8_22 d_X8_copyFrom_13 ?_
  refine r_aload_n (pc := 16) X d_X8_copyFrom_16 fn1 ?_
  refine r_getF (pc := 17) X xok8 (by decide +kernel) (by decide +kernel) fl_RX8_9 d_X8_copyFrom_17 ?_
  refine r_iconst (pc := 20) X d_X8_copyFrom_20 (by decide +kernel) ?_
  refine r_aload_n (pc := 21) X d_X8_copyFrom_21 fn0 ?_
  refine r_getF (pc := 22) X xok8 (by decide +kernel) (by decide +kernel) fl_RX8_9 d_X8_copyFrom_22 ?_
  refine r_iconst (pc := 25) X d_X8_copyFrom_25 (by decide +kernel) ?_
  refine r_aload_n (pc := 26) X d_X8_copyFrom_26 fn0 ?_
  refine r_getF (pc := 27) X xok8 (by decide +kernel) (by decide +kernel) fl_RX8_9 d_X8_copyFrom_27 ?_
  refine r_alen (pc := 30) X d_X8_copyFrom_30 ?_
  refine r_copyi (pc := 31) X rfl ac_RX8_25 (by decide +kernel) (by decide +kernel) d_X8_copyFrom_31 ?_
  refine r_aload_n (pc := 34) X d_X8_copyFrom_34 fn1 ?_
  refine r_getF (pc := 35) X xok8 (by decide +kernel) (by decide +kernel) fl_RX8_15 d_X8_copyFrom_35 ?_
  refine r_iconst (pc := 38) X d_X8_copyFrom_38 (by decide +kernel) ?_
  refine r_aload_n (pc := 39) X d_X8_copyFrom_39 fn0 ?_
  refine r_getF (pc := 40) X xok8 (by decide +kernel) (by decide +kernel) fl_RX8_15 d_X8_copyFrom_40 ?_
  refine r_iconst (pc := 43) X d_X8_copyFrom_43 (by decide +kernel) ?_
  refine r_aload_n (pc := 44) X d_X8_copyFrom_44 fn0 ?_
  refine r_getF (pc := 45) X xok8 (by decide +kernel) (by decide +kernel) fl_RX8_15 d_X8_copyFrom_45 ?_
  refine r_alen (pc := 48) X d_X8_copyFrom_48 ?_
  refine r_copyi (pc := 49) X rfl ac_RX8_25 (by decide +kernel) (by decide +kernel) d_X8_copyFrom_49 ?_
  exact r_vret (pc := 52) X hr d_X8_copyFrom_52
def f_X8_copyFrom (a0 : Nat) (a1 : Nat) (A : xH) (P : xP) : Prop := k_X8_copyFrom_0 P [some (.ref a0), some (.ref a1)] [] A
set_option maxRecDepth 20000 in
theorem con_X8_copyFrom (l : Launch) : xCon l yX8_copyFrom cX8_copyFrom 2 none 1 100 xN xN 0 xFT xFT (w_RR f_X8_copyFrom) :=
  xc_RR (plainFor_of_name pn_RX8) (by decide +kernel) (fun p e s m args below meth c g a0 a1 A P h X hr _ => ⟨_, h, t_X8_copyFrom_0 X hr⟩)
def xSen (c : Nat) : Prop := xob xN c = 8 ∧ xlay c 0 = some (c + 1) ∧ xlay c 1 = some (c + 2) ∧ xtn xN (c + 1) = 1 ∧ xtn xN (c + 2) = 1 ∧ (xsh (c + 1)).2 = 40 ∧ (xsh (c + 2)).2 = 40
theorem xSen_28 : xSen 28 := by unfold xSen; decide +kernel
theorem xSen_164 : xSen 164 := by unfold xSen; decide +kernel
theorem xSen_177 : xSen 177 := by unfold xSen; decide +kernel
/-- a Sentence's code: how many, operation and argument of each, how many ONES -/
def isSn (A : xH) (c n m : Nat) (g h : Nat → Int32) : Prop := n ≤ 40 ∧ m ≤ 40 ∧ xi A c 2 = nI n ∧ xi A c 3 = nI m ∧ ∀ k, k < n → xi A (c + 1) k = g k ∧ xi A (c + 2) k = h k
theorem isSn_fr {S : Nat → Nat → Prop} {A B : xH} {c n m : Nat} {g h : Nat → Int32} (hS : isSn A c n m g h) (hf : fr S A B) (hs : ∀ d k, S d k → ¬ ((d = c ∧ (k = 2 ∨ k = 3)) ∨ d = c + 1 ∨ d = c + 2)) : isSn B c n m g h := by
  obtain ⟨a, b, e, d, z⟩ := hS
  refine ⟨a, b, (fr_i hf fun q => hs _ _ q (by omega)).trans e, (fr_i hf fun q => hs _ _ q (by omega)).trans d, fun k hk => ⟨(fr_i hf fun q => hs _ _ q (by omega)).trans (z k hk).1, (fr_i hf fun q => hs _ _ q (by omega)).trans (z k hk).2⟩⟩
theorem fr_cpi {S : Nat → Nat → Prop} {A B : xH} {q d sp dp k : Nat} (h : fr S A B) (hs : ∀ j, S d j) : fr S A (xcpi B q d sp dp k) := by
  intro c j n
  have hne : c ≠ d := fun e => n (by subst e; exact hs j)
  have := h c j n
  refine ⟨?_, this.2⟩
  rw [← this.1]
  show xi (xcpi B q d sp dp k) c j = xi B c j
  exact cpi_ne hne
theorem sent_C {A : xH} {P : xP} {b o n m : Nat} {g h : Nat → Int32} (hb : xSen b) (ho : xSen o) (hd : b + 3 ≤ o ∨ o + 3 ≤ b) (hS : isSn A o n m g h) (hP : ∀ B, fr (fun c k => (c = b ∧ (k = 2 ∨ k = 3)) ∨ c = b + 1 ∨ c = b + 2) A B → isSn B b n m g h → P none B) : f_X8_copyFrom b o A P := by
  obtain ⟨b1, b2, b3, b4, b5, b6, b7⟩ := hb
  obtain ⟨o1, o2, o3, o4, o5, o6, o7⟩ := ho
  obtain ⟨s1, s2, s3, s4, s5⟩ := hS
  unfold f_X8_copyFrom
  simp only [k_X8_copyFrom_0, x_alen, x_aload, x_copyi, x_getF, x_getI, x_push, x_putI, x_vret, xFT, xbool0, xbool1, Nat.reduceAdd, Nat.zero_add, xgl_0, xgl_s, xgl_n, xst_0, xst_1n, xst_1i, xst_1r, xst_1l, xst_s, set_0, set_s, true_and, and_true, xres, xcat_nil, xcat_i, xcat_r, xcat_l, Nat.add_zero, xble0, xble1, xble2, xble3, xble4, xble5, xble6, xble7, xble8, b1, b2, b3, b4, b5, b6, b7, o1, o2, o3, o4, o5, o6, o7, xcpOK]
  refine ⟨by decide +kernel, by decide +kernel, ⟨by decide +kernel, by decide +kernel, by decide +kernel, by decide +kernel, by decide +kernel⟩, by decide +kernel, by decide +kernel, ⟨by decide +kernel, by decide +kernel, by decide +kernel, by decide +kernel, by decide +kernel⟩, ?_⟩
  simp only [show Int32.toNatClampNeg 0 = 0 from rfl, show (Int32.ofNat 40).toNatClampNeg = 40 from by decide +kernel]
  refine hP _ (fr_cpi (fr_cpi (fr_si (fr_si fr_rf (by omega)) (by omega)) (by omega)) (by omega)) ⟨s1, s2, ?_, ?_, fun k hk => ⟨?_, ?_⟩⟩
  · simp (disch := omega) only [cpi_ne, cpi_eq, si_ne, si_eq]; exact s3
  · simp (disch := omega) only [cpi_ne, cpi_eq, si_ne, si_eq]; exact s4
  · simp (disch := omega) only [cpi_ne, cpi_eq, si_ne, si_eq]; exact (s5 k hk).1
  · simp (disch := omega) only [cpi_ne, cpi_eq, si_ne, si_eq]; exact (s5 k hk).2

