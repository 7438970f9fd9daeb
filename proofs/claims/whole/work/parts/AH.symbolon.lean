/-! ===== the reference's symbolOn, ways ===== -/
theorem d_X12_symbolOn_0 : decode cX12_symbolOn 0 = .ok (.iload_n 2, 1) := by decide +kernel
theorem d_X12_symbolOn_1 : decode cX12_symbolOn 1 = .ok (.bipush 8, 2) := by decide +kernel
theorem d_X12_symbolOn_3 : decode cX12_symbolOn 3 = .ok (.if_icmp .ge 24, 3) := by decide +kernel
theorem d_X12_symbolOn_6 : decode cX12_symbolOn 6 = .ok (.iload 4, 2) := by decide +kernel
theorem d_X12_symbolOn_8 : decode cX12_symbolOn 8 = .ok (.iload_n 3, 1) := by decide +kernel
theorem d_X12_symbolOn_9 : decode cX12_symbolOn 9 = .ok (.iconst 1, 1) := by decide +kernel
theorem d_X12_symbolOn_10 : decode cX12_symbolOn 10 = .ok (.iadd, 1) := by decide +kernel
theorem d_X12_symbolOn_11 : decode cX12_symbolOn 11 = .ok (.if_icmp .ne 14, 3) := by decide +kernel
theorem d_X12_symbolOn_14 : decode cX12_symbolOn 14 = .ok (.aload_n 1, 1) := by decide +kernel
theorem d_X12_symbolOn_15 : decode cX12_symbolOn 15 = .ok (.iload_n 3, 1) := by decide +kernel
theorem d_X12_symbolOn_16 : decode cX12_symbolOn 16 = .ok (.iaload, 1) := by decide +kernel
theorem d_X12_symbolOn_17 : decode cX12_symbolOn 17 = .ok (.iload_n 2, 1) := by decide +kernel
theorem d_X12_symbolOn_18 : decode cX12_symbolOn 18 = .ok (.if_icmp .ne 7, 3) := by decide +kernel
theorem d_X12_symbolOn_21 : decode cX12_symbolOn 21 = .ok (.iconst 1, 1) := by decide +kernel
theorem d_X12_symbolOn_22 : decode cX12_symbolOn 22 = .ok (.goto 4, 3) := by decide +kernel
theorem d_X12_symbolOn_25 : decode cX12_symbolOn 25 = .ok (.iconst 0, 1) := by decide +kernel
theorem d_X12_symbolOn_26 : decode cX12_symbolOn 26 = .ok (.ireturn, 1) := by decide +kernel
theorem d_X12_symbolOn_27 : decode cX12_symbolOn 27 = .ok (.iload_n 3, 1) := by decide +kernel
theorem d_X12_symbolOn_28 : decode cX12_symbolOn 28 = .ok (.iload 5, 2) := by decide +kernel
theorem d_X12_symbolOn_30 : decode cX12_symbolOn 30 = .ok (.if_icmp .ne 10, 3) := by decide +kernel
theorem d_X12_symbolOn_33 : decode cX12_symbolOn 33 = .ok (.iload 4, 2) := by decide +kernel
theorem d_X12_symbolOn_35 : decode cX12_symbolOn 35 = .ok (.iload 6, 2) := by decide +kernel
theorem d_X12_symbolOn_37 : decode cX12_symbolOn 37 = .ok (.if_icmp .eq 42, 3) := by decide +kernel
theorem d_X12_symbolOn_40 : decode cX12_symbolOn 40 = .ok (.iload_n 3, 1) := by decide +kernel
theorem d_X12_symbolOn_41 : decode cX12_symbolOn 41 = .ok (.iload 4, 2) := by decide +kernel
theorem d_X12_symbolOn_43 : decode cX12_symbolOn 43 = .ok (.if_icmp .ne 15, 3) := by decide +kernel
theorem d_X12_symbolOn_46 : decode cX12_symbolOn 46 = .ok (.aload_n 0, 1) := by decide +kernel
theorem d_X12_symbolOn_47 : decode cX12_symbolOn 47 = .ok (.getfield 118, 3) := by decide +kernel
theorem d_X12_symbolOn_50 : decode cX12_symbolOn 50 = .ok (.iload_n 2, 1) := by decide +kernel
theorem d_X12_symbolOn_51 : decode cX12_symbolOn 51 = .ok (.bipush 8, 2) := by decide +kernel
theorem d_X12_symbolOn_53 : decode cX12_symbolOn 53 = .ok (.isub, 1) := by decide +kernel
theorem d_X12_symbolOn_54 : decode cX12_symbolOn 54 = .ok (.iaload, 1) := by decide +kernel
theorem d_X12_symbolOn_55 : decode cX12_symbolOn 55 = .ok (.goto 23, 3) := by decide +kernel
theorem d_X12_symbolOn_58 : decode cX12_symbolOn 58 = .ok (.aload_n 0, 1) := by decide +kernel
theorem d_X12_symbolOn_59 : decode cX12_symbolOn 59 = .ok (.getfield 130, 3) := by decide +kernel
theorem d_X12_symbolOn_62 : decode cX12_symbolOn 62 = .ok (.bipush 81, 2) := by decide +kernel
theorem d_X12_symbolOn_64 : decode cX12_symbolOn 64 = .ok (.iload_n 2, 1) := by decide +kernel
theorem d_X12_symbolOn_65 : decode cX12_symbolOn 65 = .ok (.bipush 8, 2) := by decide +kernel
theorem d_X12_symbolOn_67 : decode cX12_symbolOn 67 = .ok (.isub, 1) := by decide +kernel
theorem d_X12_symbolOn_68 : decode cX12_symbolOn 68 = .ok (.imul, 1) := by decide +kernel
theorem d_X12_symbolOn_69 : decode cX12_symbolOn 69 = .ok (.bipush 9, 2) := by decide +kernel
theorem d_X12_symbolOn_71 : decode cX12_symbolOn 71 = .ok (.iload_n 3, 1) := by decide +kernel
theorem d_X12_symbolOn_72 : decode cX12_symbolOn 72 = .ok (.imul, 1) := by decide +kernel
theorem d_X12_symbolOn_73 : decode cX12_symbolOn 73 = .ok (.iadd, 1) := by decide +kernel
theorem d_X12_symbolOn_74 : decode cX12_symbolOn 74 = .ok (.iload 4, 2) := by decide +kernel
theorem d_X12_symbolOn_76 : decode cX12_symbolOn 76 = .ok (.iadd, 1) := by decide +kernel
theorem d_X12_symbolOn_77 : decode cX12_symbolOn 77 = .ok (.iaload, 1) := by decide +kernel
theorem d_X12_symbolOn_78 : decode cX12_symbolOn 78 = .ok (.ireturn, 1) := by decide +kernel
theorem d_X12_symbolOn_79 : decode cX12_symbolOn 79 = .ok (.iload 7, 2) := by decide +kernel
theorem d_X12_symbolOn_81 : decode cX12_symbolOn 81 = .ok (.ifCond .ge 7, 3) := by decide +kernel
theorem d_X12_symbolOn_84 : decode cX12_symbolOn 84 = .ok (.iconst 0, 1) := by decide +kernel
theorem d_X12_symbolOn_85 : decode cX12_symbolOn 85 = .ok (.goto 16, 3) := by decide +kernel
theorem d_X12_symbolOn_88 : decode cX12_symbolOn 88 = .ok (.aload_n 0, 1) := by decide +kernel
theorem d_X12_symbolOn_89 : decode cX12_symbolOn 89 = .ok (.iload_n 2, 1) := by decide +kernel
theorem d_X12_symbolOn_90 : decode cX12_symbolOn 90 = .ok (.bipush 8, 2) := by decide +kernel
theorem d_X12_symbolOn_92 : decode cX12_symbolOn 92 = .ok (.isub, 1) := by decide +kernel
theorem d_X12_symbolOn_93 : decode cX12_symbolOn 93 = .ok (.iload_n 3, 1) := by decide +kernel
theorem d_X12_symbolOn_94 : decode cX12_symbolOn 94 = .ok (.iload 4, 2) := by decide +kernel
theorem d_X12_symbolOn_96 : decode cX12_symbolOn 96 = .ok (.iload 7, 2) := by decide +kernel
theorem d_X12_symbolOn_98 : decode cX12_symbolOn 98 = .ok (.invokevirtual 518, 3) := by decide +kernel
theorem d_X12_symbolOn_101 : decode cX12_symbolOn 101 = .ok (.ireturn, 1) := by decide +kernel
def k_X12_symbolOn_78 (P : xP) : xK := x_iret P
set_option maxRecDepth 20000 in
theorem t_X12_symbolOn_78 {p : Program} {l : Launch} {e : Env} {s : State} {m : MethodId} {args : Array Value} {below : List Frame} {meth : Method} {c : Code} {g : xG} (X : xX p s m args c meth cX12_symbolOn RX12 8 g) (hr : meth.sig.returnType = (some .int)) {P : xP} : xAt p l e { frames := 2, cells := 0, slots := 0, locals := 48 } s m args below meth c g 8 xFT xN 0 0 (MQ below (xQc g xFT xN P) args s 0 0 (xFr g)) (k_X12_symbolOn_78 P) 78 := by
  unfold k_X12_symbolOn_78
  exact r_iret (pc := 78) X hr d_X12_symbolOn_78
def k_X12_symbolOn_40 (P : xP) : xK := x_iload 3 (x_iload 4 (x_icmp_ne (x_aload 0 (y_getF 180 214 (x_push (.int 81) (x_iload 2 (x_push (.int 8) (x_isub (x_imul (x_push (.int 9) (x_iload 3 (x_imul (x_iadd (x_iload 4 (x_iadd (y_iald 214 405 ((k_X12_symbolOn_78 P)))))))))))))))) (x_aload 0 (y_getF 180 210 (x_iload 2 (x_push (.int 8) (x_isub (y_iald 210 1215 ((k_X12_symbolOn_78 P))))))))))
set_option maxRecDepth 20000 in
theorem t_X12_symbolOn_40 {p : Program} {l : Launch} {e : Env} {s : State} {m : MethodId} {args : Array Value} {below : List Frame} {meth : Method} {c : Code} {g : xG} (X : xX p s m args c meth cX12_symbolOn RX12 8 g) (hr : meth.sig.returnType = (some .int)) {P : xP} : xAt p l e { frames := 2, cells := 0, slots := 0, locals := 48 } s m args below meth c g 8 xFT xN 0 0 (MQ below (xQc g xFT xN P) args s 0 0 (xFr g)) (k_X12_symbolOn_40 P) 40 := by
  unfold k_X12_symbolOn_40
  refine r_iload_n (pc := 40) X d_X12_symbolOn_40 fn3 ?_
  refine r_iload (pc := 41) X d_X12_symbolOn_41 ?_
  refine r_icmp_ne (pc := 43) (tgt := 58) X d_X12_symbolOn_43 (by decide +kernel) ?_ ?_
  · refine r_aload_n (pc := 58) X d_X12_symbolOn_58 fn0 ?_
    refine s_getF (pc := 59) (ci := 12) (k := 62) X xok12 (by decide +kernel) ob_180 trivial ly_180_62 (by decide +kernel) fl_RX12_130 d_X12_symbolOn_59 ?_
    refine r_bipush (pc := 62) X d_X12_symbolOn_62 (by decide +kernel) ?_
    refine r_iload_n (pc := 64) X d_X12_symbolOn_64 fn2 ?_
    refine r_bipush (pc := 65) X d_X12_symbolOn_65 (by decide +kernel) ?_
    refine r_isub (pc := 67) X d_X12_symbolOn_67 ?_
    refine r_imul (pc := 68) X d_X12_symbolOn_68 ?_
    refine r_bipush (pc := 69) X d_X12_symbolOn_69 (by decide +kernel) ?_
    refine r_iload_n (pc := 71) X d_X12_symbolOn_71 fn3 ?_
    refine r_imul (pc := 72) X d_X12_symbolOn_72 ?_
    refine r_iadd (pc := 73) X d_X12_symbolOn_73 ?_
    refine r_iload (pc := 74) X d_X12_symbolOn_74 ?_
    refine r_iadd (pc := 76) X d_X12_symbolOn_76 ?_
    refine s_iald (pc := 77) X tn_214 ln_214 d_X12_symbolOn_77 ?_
    exact t_X12_symbolOn_78 X hr
  · refine r_aload_n (pc := 46) X d_X12_symbolOn_46 fn0 ?_
    refine s_getF (pc := 47) (ci := 12) (k := 58) X xok12 (by decide +kernel) ob_180 trivial ly_180_58 (by decide +kernel) fl_RX12_118 d_X12_symbolOn_47 ?_
    refine r_iload_n (pc := 50) X d_X12_symbolOn_50 fn2 ?_
    refine r_bipush (pc := 51) X d_X12_symbolOn_51 (by decide +kernel) ?_
    refine r_isub (pc := 53) X d_X12_symbolOn_53 ?_
    refine s_iald (pc := 54) X tn_210 ln_210 d_X12_symbolOn_54 ?_
    refine r_goto (pc := 55) (tgt := 78) X d_X12_symbolOn_55 (by decide +kernel) ?_
    exact t_X12_symbolOn_78 X hr
def k_X12_symbolOn_101 (P : xP) : xK := x_iret P
set_option maxRecDepth 20000 in
theorem t_X12_symbolOn_101 {p : Program} {l : Launch} {e : Env} {s : State} {m : MethodId} {args : Array Value} {below : List Frame} {meth : Method} {c : Code} {g : xG} (X : xX p s m args c meth cX12_symbolOn RX12 8 g) (hr : meth.sig.returnType = (some .int)) {P : xP} : xAt p l e { frames := 2, cells := 0, slots := 0, locals := 48 } s m args below meth c g 8 xFT xN 0 0 (MQ below (xQc g xFT xN P) args s 0 0 (xFr g)) (k_X12_symbolOn_101 P) 101 := by
  unfold k_X12_symbolOn_101
  exact r_iret (pc := 101) X hr d_X12_symbolOn_101
def k_X12_symbolOn_26 (P : xP) : xK := x_iret P
set_option maxRecDepth 20000 in
theorem t_X12_symbolOn_26 {p : Program} {l : Launch} {e : Env} {s : State} {m : MethodId} {args : Array Value} {below : List Frame} {meth : Method} {c : Code} {g : xG} (X : xX p s m args c meth cX12_symbolOn RX12 8 g) (hr : meth.sig.returnType = (some .int)) {P : xP} : xAt p l e { frames := 2, cells := 0, slots := 0, locals := 48 } s m args below meth c g 8 xFT xN 0 0 (MQ below (xQc g xFT xN P) args s 0 0 (xFr g)) (k_X12_symbolOn_26 P) 26 := by
  unfold k_X12_symbolOn_26
  exact r_iret (pc := 26) X hr d_X12_symbolOn_26
def k_X12_symbolOn_25 (P : xP) : xK := x_push (.int 0) ((k_X12_symbolOn_26 P))
set_option maxRecDepth 20000 in
theorem t_X12_symbolOn_25 {p : Program} {l : Launch} {e : Env} {s : State} {m : MethodId} {args : Array Value} {below : List Frame} {meth : Method} {c : Code} {g : xG} (X : xX p s m args c meth cX12_symbolOn RX12 8 g) (hr : meth.sig.returnType = (some .int)) {P : xP} : xAt p l e { frames := 2, cells := 0, slots := 0, locals := 48 } s m args below meth c g 8 xFT xN 0 0 (MQ below (xQc g xFT xN P) args s 0 0 (xFr g)) (k_X12_symbolOn_25 P) 25 := by
  unfold k_X12_symbolOn_25
  refine r_iconst (pc := 25) X d_X12_symbolOn_25 (by decide +kernel) ?_
  exact t_X12_symbolOn_26 X hr
def k_X12_symbolOn_0 (P : xP) : xK := x_iload 2 (x_push (.int 8) (x_icmp_ge (x_iload 3 (x_iload 5 (x_icmp_ne ((k_X12_symbolOn_40 P)) (x_iload 4 (x_iload 6 (x_icmp_eq (x_iload 7 (x_if_ge (x_aload 0 (x_iload 2 (x_push (.int 8) (x_isub (x_iload 3 (x_iload 4 (x_iload 7 (y_cv4 180 (w_RIIII f_X12_treesOf) ((k_X12_symbolOn_101 P)))))))))) (x_push (.int 0) ((k_X12_symbolOn_101 P))))) ((k_X12_symbolOn_40 P)))))))) (x_iload 4 (x_iload 3 (x_push (.int 1) (x_iadd (x_icmp_ne ((k_X12_symbolOn_25 P)) (x_aload 1 (x_iload 3 (x_iald xN (x_iload 2 (x_icmp_ne ((k_X12_symbolOn_25 P)) (x_push (.int 1) ((k_X12_symbolOn_26 P)))))))))))))))
set_option maxRecDepth 20000 in
theorem t_X12_symbolOn_0 {p : Program} {l : Launch} {e : Env} {s : State} {m : MethodId} {args : Array Value} {below : List Frame} {meth : Method} {c : Code} {g : xG} (X : xX p s m args c meth cX12_symbolOn RX12 8 g) (hr : meth.sig.returnType = (some .int)) {P : xP} : xAt p l e { frames := 2, cells := 0, slots := 0, locals := 48 } s m args below meth c g 8 xFT xN 0 0 (MQ below (xQc g xFT xN P) args s 0 0 (xFr g)) (k_X12_symbolOn_0 P) 0 := by
  unfold k_X12_symbolOn_0
  refine r_iload_n (pc := 0) X d_X12_symbolOn_0 fn2 ?_
  refine r_bipush (pc := 1) X d_X12_symbolOn_1 (by decide +kernel) ?_
  refine r_icmp_ge (pc := 3) (tgt := 27) X d_X12_symbolOn_3 (by decide +kernel) ?_ ?_
  · refine r_iload_n (pc := 27) X d_X12_symbolOn_27 fn3 ?_
    refine r_iload (pc := 28) X d_X12_symbolOn_28 ?_
    refine r_icmp_ne (pc := 30) (tgt := 40) X d_X12_symbolOn_30 (by decide +kernel) ?_ ?_
    · exact t_X12_symbolOn_40 X hr
    · refine r_iload (pc := 33) X d_X12_symbolOn_33 ?_
      refine r_iload (pc := 35) X d_X12_symbolOn_35 ?_
      refine r_icmp_eq (pc := 37) (tgt := 79) X d_X12_symbolOn_37 (by decide +kernel) ?_ ?_
      · refine r_iload (pc := 79) X d_X12_symbolOn_79 ?_
        refine r_if_ge (pc := 81) (tgt := 88) X d_X12_symbolOn_81 (by decide +kernel) ?_ ?_
        · refine r_aload_n (pc := 88) X d_X12_symbolOn_88 fn0 ?_
          refine r_iload_n (pc := 89) X d_X12_symbolOn_89 fn2 ?_
          refine r_bipush (pc := 90) X d_X12_symbolOn_90 (by decide +kernel) ?_
          refine r_isub (pc := 92) X d_X12_symbolOn_92 ?_
          refine r_iload_n (pc := 93) X d_X12_symbolOn_93 fn3 ?_
          refine r_iload (pc := 94) X d_X12_symbolOn_94 ?_
          refine r_iload (pc := 96) X d_X12_symbolOn_96 ?_
          refine s_cv4 (pc := 98) (ci := 12) X xok12 (by decide +kernel) ob_180 rfl (con_X12_treesOf l) mf_X12_treesOf ml_RX12_518 (by decide +kernel) (by decide +kernel) d_X12_symbolOn_98 ?_
          exact t_X12_symbolOn_101 X hr
        · refine r_iconst (pc := 84) X d_X12_symbolOn_84 (by decide +kernel) ?_
          refine r_goto (pc := 85) (tgt := 101) X d_X12_symbolOn_85 (by decide +kernel) ?_
          exact t_X12_symbolOn_101 X hr
      · exact t_X12_symbolOn_40 X hr
  · refine r_iload (pc := 6) X d_X12_symbolOn_6 ?_
    refine r_iload_n (pc := 8) X d_X12_symbolOn_8 fn3 ?_
    refine r_iconst (pc := 9) X d_X12_symbolOn_9 (by decide +kernel) ?_
    refine r_iadd (pc := 10) X d_X12_symbolOn_10 ?_
    refine r_icmp_ne (pc := 11) (tgt := 25) X d_X12_symbolOn_11 (by decide +kernel) ?_ ?_
    · exact t_X12_symbolOn_25 X hr
    · refine r_aload_n (pc := 14) X d_X12_symbolOn_14 fn1 ?_
      refine r_iload_n (pc := 15) X d_X12_symbolOn_15 fn3 ?_
      refine r_iald (pc := 16) X d_X12_symbolOn_16 ?_
      refine r_iload_n (pc := 17) X d_X12_symbolOn_17 fn2 ?_
      refine r_icmp_ne (pc := 18) (tgt := 25) X d_X12_symbolOn_18 (by decide +kernel) ?_ ?_
      · exact t_X12_symbolOn_25 X hr
      · refine r_iconst (pc := 21) X d_X12_symbolOn_21 (by decide +kernel) ?_
        refine r_goto (pc := 22) (tgt := 26) X d_X12_symbolOn_22 (by decide +kernel) ?_
        exact t_X12_symbolOn_26 X hr
def f_X12_symbolOn (a0 : Nat) (a1 : Nat) (a2 : Int32) (a3 : Int32) (a4 : Int32) (a5 : Int32) (a6 : Int32) (a7 : Int32) (A : xH) (P : xP) : Prop := k_X12_symbolOn_0 P [some (.ref a0), some (.ref a1), some (.int a2), some (.int a3), some (.int a4), some (.int a5), some (.int a6), some (.int a7)] [] A
set_option maxRecDepth 20000 in
theorem con_X12_symbolOn (l : Launch) : xCon l yX12_symbolOn cX12_symbolOn 8 (some .int) 2 48 xN xN 0 xFT xFT (w_RRIIIIII f_X12_symbolOn) :=
  xc_RRIIIIII (plainFor_of_name pn_RX12) (by decide +kernel) (fun p e s m args below meth c g a0 a1 a2 a3 a4 a5 a6 a7 A P h X hr _ => ⟨_, h, t_X12_symbolOn_0 X hr⟩)
def onF (g : xV) (ρ : Nat → Nat) (o : Option Nat) (i j : Nat) : Nat → Nat := match o with
  | none => fun _ => 0
  | some w => fun k => tW g ρ w k i j
def oVI (o : Option Nat) : Int32 := match o with
  | none => -1
  | some w => nI w
/-- what stands when a rule's ways on a part are counted -/
def wyS (A : xH) (g : xV) (ρ : Nat → Nat) (s i j : Nat) (o : Option Nat) : Prop := (s = 216 ∨ s = 217) ∧ isR A g ∧ wfg g ∧ i ≤ j ∧ j ≤ 8 ∧ noU A g 0 ∧ (∀ x y, i ≤ x → x < y → y ≤ j → ¬ (x = i ∧ y = j) → whU A g ρ x y) ∧ (∀ x, i ≤ x → x < j → xi A s x = nI (ρ x) ∧ ρ x < 2 ^ 31) ∧ ∀ w, o = some w → w < 243 ∧ noU A g w ∧ chU A g w ∧ (i < j → bsU A g ρ i j)
theorem wyS_fr {S : Nat → Nat → Prop} {A B : xH} {g : xV} {ρ : Nat → Nat} {s i j : Nat} {o : Option Nat} (h : wyS A g ρ s i j o) (hf : fr S A B) (hs : ∀ c k, S c k → c ≠ 182 ∧ c ≠ 186 ∧ ¬ (210 ≤ c ∧ c ≤ 217)) : wyS B g ρ s i j o := by
  obtain ⟨h1, h2, h3, h4, h5, h6, h7, h8, h9⟩ := h
  have e : ∀ c k, 210 ≤ c → c ≤ 217 → xi B c k = xi A c k := fun c k a b => fr_i hf fun w => (hs _ _ w).2.2 ⟨a, b⟩
  refine ⟨h1, isR_fr h2 hf fun c k w => ⟨(hs c k w).1, fun q => (hs c k w).2.1 q.1⟩, h3, h4, h5, fun k hk => by rw [e _ _ (by omega) (by omega)]; exact h6 k hk, fun x y a b c d m hm => by rw [e _ _ (by omega) (by omega)]; exact h7 x y a b c d m hm, fun x a b => by rw [e _ _ (by rcases h1 with q | q <;> omega) (by rcases h1 with q | q <;> omega)]; exact h8 x a b, fun w hw => ?_⟩
  obtain ⟨a, b, c, d⟩ := h9 w hw
  exact ⟨a, fun k hk => by rw [e _ _ (by omega) (by omega)]; exact b k hk, fun x y hx hy => by rw [e _ _ (by omega) (by omega)]; exact c x y hx hy, fun q m hm => by rw [e _ _ (by omega) (by omega)]; exact d q m hm⟩
theorem symbolOn_U {A : xH} {P : xP} {g : xV} {ρ : Nat → Nat} {s i j : Nat} {o : Option Nat} {c x y : Nat} (h : wyS A g ρ s i j o) (hc : c < 13) (hx : i ≤ x) (hxy : x ≤ y) (hy : y ≤ j) (hP : P (some (.int (nI (min (sSy (eW g 0) ρ (tW g ρ 0) (onF g ρ o i j) i j c x y) 10000)))) A) : f_X12_symbolOn 180 s (nI c) (nI x) (nI y) (nI i) (nI j) (oVI o) A P := by
  obtain ⟨h1, h2, h3, h4, h5, h6, h7, h8, h9⟩ := h
  have ts : xtn xN s = 1 := by rcases h1 with rfl | rfl; exact tn_216; exact tn_217
  have ns : (xsh s).2 = 8 := by rcases h1 with rfl | rfl; exact ln_216; exact ln_217
  unfold sSy at hP
  unfold f_X12_symbolOn
  simp (disch := omega) only [k_X12_symbolOn_0, k_X12_symbolOn_25, k_X12_symbolOn_26, k_X12_symbolOn_78, k_X12_symbolOn_101, w_RIIII, x_aload, x_iadd, x_iald, x_icmp_eq, x_icmp_ge, x_icmp_ne, x_if_ge, x_iload, x_imul, x_iret, x_isub, x_push, y_cv4, y_getF, y_iald, xFT, xbool0, xbool1, Nat.reduceAdd, Nat.zero_add, xgl_0, xgl_s, xgl_n, xst_0, xst_1n, xst_1i, xst_1r, xst_1l, xst_s, set_0, set_s, true_and, and_true, xres, xcat_nil, xcat_i, xcat_r, xcat_l, Nat.add_zero, xble0, xble1, xble2, xble3, xble4, xble5, xble6, xble7, xble8, pk_mul, nI_add, nI_1, nI_leI, nI_ltI, nI_eq, n_in, n_cl, z_eq, z_lt, z_le, z_gt, z_ge, z_qe, o_eq, o_lt, o_le, o_gt, o_ge, vp0, vp1, cl0, cl1, n_sub, n_sub1, n_pm1, n_a0, n_0a, ofn, lN0, Nat.reduceLT, Nat.reduceLeDiff, Nat.reduceMul, Nat.reduceSub, Nat.reduceEqDiff, ne_eq, true_implies, false_implies, not_true_eq_false, not_false_eq_true, and_self, and_true, true_and, and_false, false_and, implies_true, if_true, if_false, i00, i10, i01, i11, ob_0, ob_1, tn_2, ln_2, ob_3, tn_4, ln_4, ob_5, tn_6, ln_6, tn_7, ln_7, ob_8, tn_9, ln_9, tn_10, ln_10, tn_11, ln_11, tn_12, ln_12, tn_13, ln_13, tn_14, ln_14, tn_15, ln_15, tn_16, ln_16, tn_17, ln_17, ob_18, tn_19, ln_19, tn_20, ln_20, tn_21, ln_21, tn_22, ln_22, tn_23, ln_23, tn_24, ln_24, tn_25, ln_25, tn_26, ln_26, tn_27, ln_27, ob_28, tn_29, ln_29, tn_30, ln_30, ob_31, tn_32, ln_32, tn_33, ln_33, ob_34, ob_35, tn_36, ln_36, tn_37, ln_37, tn_38, ln_38, ob_39, tn_40, ln_40, tn_41, ln_41, tn_42, ln_42, tn_43, ln_43, tn_44, ln_44, tn_45, ln_45, tn_46, ln_46, tn_47, ln_47, tn_48, ln_48, tn_49, ln_49, tn_50, ln_50, tn_51, ln_51, ob_52, tn_53, ln_53, tn_54, ln_54, tn_55, ln_55, tn_56, ln_56, ob_57, tn_58, ln_58, tn_59, ln_59, tn_60, ln_60, tn_61, ln_61, tn_62, ln_62, tn_63, ln_63, tn_64, ln_64, tn_65, ln_65, ob_66, tn_67, ln_67, tn_68, ln_68, tn_69, ln_69, tn_70, ln_70, tn_71, ln_71, tn_72, ln_72, tn_73, ln_73, ob_74, tn_75, ln_75, tn_76, ln_76, tn_77, ln_77, tn_78, ln_78, tn_79, ln_79, tn_80, ln_80, tn_81, ln_81, tn_82, ln_82, tn_83, ln_83, ob_84, tn_85, ln_85, tn_86, ln_86, tn_87, ln_87, tn_88, ln_88, tn_89, ln_89, tn_90, ln_90, tn_91, ln_91, tn_92, ln_92, tn_93, ln_93, ob_94, tn_95, ln_95, tn_96, ln_96, tn_97, ln_97, tn_98, ln_98, tn_99, ln_99, tn_100, ln_100, tn_101, ln_101, tn_102, ln_102, tn_103, ln_103, ob_104, tn_105, ln_105, tn_106, ln_106, tn_107, ln_107, tn_108, ln_108, tn_109, ln_109, tn_110, ln_110, tn_111, ln_111, tn_112, ln_112, tn_113, ln_113, ob_114, tn_115, ln_115, tn_116, ln_116, tn_117, ln_117, tn_118, ln_118, tn_119, ln_119, tn_120, ln_120, tn_121, ln_121, tn_122, ln_122, tn_123, ln_123, ob_124, tn_125, ln_125, tn_126, ln_126, tn_127, ln_127, tn_128, ln_128, tn_129, ln_129, tn_130, ln_130, tn_131, ln_131, tn_132, ln_132, tn_133, ln_133, ob_134, tn_135, ln_135, tn_136, ln_136, tn_137, ln_137, tn_138, ln_138, tn_139, ln_139, tn_140, ln_140, tn_141, ln_141, tn_142, ln_142, tn_143, ln_143, ob_144, tn_145, ln_145, tn_146, ln_146, tn_147, ln_147, tn_148, ln_148, tn_149, ln_149, tn_150, ln_150, tn_151, ln_151, tn_152, ln_152, tn_153, ln_153, ob_154, tn_155, ln_155, tn_156, ln_156, tn_157, ln_157, tn_158, ln_158, tn_159, ln_159, tn_160, ln_160, tn_161, ln_161, tn_162, ln_162, tn_163, ln_163, ob_164, tn_165, ln_165, tn_166, ln_166, ob_167, tn_168, ln_168, tn_169, ln_169, tn_170, ln_170, tn_171, ln_171, tn_172, ln_172, tn_173, ln_173, tn_174, ln_174, tn_175, ln_175, tn_176, ln_176, ob_177, tn_178, ln_178, tn_179, ln_179, ob_180, tn_181, ln_181, tn_182, ln_182, tn_183, ln_183, tn_184, ln_184, tn_185, ln_185, tn_186, ln_186, tn_187, ln_187, tn_188, ln_188, tn_189, ln_189, tn_190, ln_190, tn_191, ln_191, tn_192, ln_192, tn_193, ln_193, tn_194, ln_194, tn_195, ln_195, tn_196, ln_196, tn_197, ln_197, tn_198, ln_198, tn_199, ln_199, tn_200, ln_200, tn_201, ln_201, tn_202, ln_202, tn_203, ln_203, tn_204, ln_204, tn_205, ln_205, tn_206, ln_206, tn_207, ln_207, tn_208, ln_208, tn_209, ln_209, tn_210, ln_210, tn_211, ln_211, tn_212, ln_212, tn_213, ln_213, tn_214, ln_214, tn_215, ln_215, tn_216, ln_216, tn_217, ln_217, tn_218, ln_218, tn_219, ln_219, tn_220, ln_220, tn_221, ln_221, tn_222, ln_222, tn_223, ln_223, tn_224, ln_224, tn_225, ln_225, tn_226, ln_226, tn_227, ln_227, tn_228, ln_228, tn_229, ln_229, tn_230, ln_230, lx2, lx3, lx4, lx5, lx6, lx7, lx8, lx9, lx10, lx14, lx15, lx16, lx18, lx20, lx24, lx25, lx27, lx32, lx36, lx40, lx41, lx42, lx43, lx45, lx48, lx52, lx54, lx56, lx57, lx58, lx60, lx61, lx62, lx63, lx64, lx66, lx69, lx73, lx80, lx81, lx84, lx85, lx87, lx94, lx96, lx97, lx120, lx128, lx135, lx160, lx162, lx163, lx165, lx200, lx232, lx242, lx243, lx255, lx256, lx320, lx325, lx400, lx405, lx464, lx512, lx600, lx640, lx752, lx900, lx940, lx1000, lx1024, lx1764, lx3360, lx3840, lx5000, lx6400, lx9050, lx9998, lx9999, lx10000, lx25600, lx76800, lx99999, ts, ns]
  have f40 : 8 ≤ c → ¬ (x = i ∧ y = j) → k_X12_symbolOn_40 P [some (.ref 180), some (.ref s), some (.int (nI c)), some (.int (nI x)), some (.int (nI y)), some (.int (nI i)), some (.int (nI j)), some (.int (oVI o))] [] A := fun c8 nx => by
    rw [if_neg (by omega), if_neg nx] at hP
    simp (disch := omega) only [k_X12_symbolOn_0, k_X12_symbolOn_25, k_X12_symbolOn_26, k_X12_symbolOn_40, k_X12_symbolOn_78, k_X12_symbolOn_101, w_RIIII, x_aload, x_iadd, x_iald, x_icmp_eq, x_icmp_ge, x_icmp_ne, x_if_ge, x_iload, x_imul, x_iret, x_isub, x_push, y_cv4, y_getF, y_iald, xFT, xbool0, xbool1, Nat.reduceAdd, Nat.zero_add, xgl_0, xgl_s, xgl_n, xst_0, xst_1n, xst_1i, xst_1r, xst_1l, xst_s, set_0, set_s, true_and, and_true, xres, xcat_nil, xcat_i, xcat_r, xcat_l, Nat.add_zero, xble0, xble1, xble2, xble3, xble4, xble5, xble6, xble7, xble8, pk_mul, nI_add, nI_1, nI_leI, nI_ltI, nI_eq, n_in, n_cl, z_eq, z_lt, z_le, z_gt, z_ge, z_qe, o_eq, o_lt, o_le, o_gt, o_ge, vp0, vp1, cl0, cl1, n_sub, n_sub1, n_pm1, n_a0, n_0a, ofn, lN0, Nat.reduceLT, Nat.reduceLeDiff, Nat.reduceMul, Nat.reduceSub, Nat.reduceEqDiff, ne_eq, true_implies, false_implies, not_true_eq_false, not_false_eq_true, and_self, and_true, true_and, and_false, false_and, implies_true, if_true, if_false, i00, i10, i01, i11, ob_0, ob_1, tn_2, ln_2, ob_3, tn_4, ln_4, ob_5, tn_6, ln_6, tn_7, ln_7, ob_8, tn_9, ln_9, tn_10, ln_10, tn_11, ln_11, tn_12, ln_12, tn_13, ln_13, tn_14, ln_14, tn_15, ln_15, tn_16, ln_16, tn_17, ln_17, ob_18, tn_19, ln_19, tn_20, ln_20, tn_21, ln_21, tn_22, ln_22, tn_23, ln_23, tn_24, ln_24, tn_25, ln_25, tn_26, ln_26, tn_27, ln_27, ob_28, tn_29, ln_29, tn_30, ln_30, ob_31, tn_32, ln_32, tn_33, ln_33, ob_34, ob_35, tn_36, ln_36, tn_37, ln_37, tn_38, ln_38, ob_39, tn_40, ln_40, tn_41, ln_41, tn_42, ln_42, tn_43, ln_43, tn_44, ln_44, tn_45, ln_45, tn_46, ln_46, tn_47, ln_47, tn_48, ln_48, tn_49, ln_49, tn_50, ln_50, tn_51, ln_51, ob_52, tn_53, ln_53, tn_54, ln_54, tn_55, ln_55, tn_56, ln_56, ob_57, tn_58, ln_58, tn_59, ln_59, tn_60, ln_60, tn_61, ln_61, tn_62, ln_62, tn_63, ln_63, tn_64, ln_64, tn_65, ln_65, ob_66, tn_67, ln_67, tn_68, ln_68, tn_69, ln_69, tn_70, ln_70, tn_71, ln_71, tn_72, ln_72, tn_73, ln_73, ob_74, tn_75, ln_75, tn_76, ln_76, tn_77, ln_77, tn_78, ln_78, tn_79, ln_79, tn_80, ln_80, tn_81, ln_81, tn_82, ln_82, tn_83, ln_83, ob_84, tn_85, ln_85, tn_86, ln_86, tn_87, ln_87, tn_88, ln_88, tn_89, ln_89, tn_90, ln_90, tn_91, ln_91, tn_92, ln_92, tn_93, ln_93, ob_94, tn_95, ln_95, tn_96, ln_96, tn_97, ln_97, tn_98, ln_98, tn_99, ln_99, tn_100, ln_100, tn_101, ln_101, tn_102, ln_102, tn_103, ln_103, ob_104, tn_105, ln_105, tn_106, ln_106, tn_107, ln_107, tn_108, ln_108, tn_109, ln_109, tn_110, ln_110, tn_111, ln_111, tn_112, ln_112, tn_113, ln_113, ob_114, tn_115, ln_115, tn_116, ln_116, tn_117, ln_117, tn_118, ln_118, tn_119, ln_119, tn_120, ln_120, tn_121, ln_121, tn_122, ln_122, tn_123, ln_123, ob_124, tn_125, ln_125, tn_126, ln_126, tn_127, ln_127, tn_128, ln_128, tn_129, ln_129, tn_130, ln_130, tn_131, ln_131, tn_132, ln_132, tn_133, ln_133, ob_134, tn_135, ln_135, tn_136, ln_136, tn_137, ln_137, tn_138, ln_138, tn_139, ln_139, tn_140, ln_140, tn_141, ln_141, tn_142, ln_142, tn_143, ln_143, ob_144, tn_145, ln_145, tn_146, ln_146, tn_147, ln_147, tn_148, ln_148, tn_149, ln_149, tn_150, ln_150, tn_151, ln_151, tn_152, ln_152, tn_153, ln_153, ob_154, tn_155, ln_155, tn_156, ln_156, tn_157, ln_157, tn_158, ln_158, tn_159, ln_159, tn_160, ln_160, tn_161, ln_161, tn_162, ln_162, tn_163, ln_163, ob_164, tn_165, ln_165, tn_166, ln_166, ob_167, tn_168, ln_168, tn_169, ln_169, tn_170, ln_170, tn_171, ln_171, tn_172, ln_172, tn_173, ln_173, tn_174, ln_174, tn_175, ln_175, tn_176, ln_176, ob_177, tn_178, ln_178, tn_179, ln_179, ob_180, tn_181, ln_181, tn_182, ln_182, tn_183, ln_183, tn_184, ln_184, tn_185, ln_185, tn_186, ln_186, tn_187, ln_187, tn_188, ln_188, tn_189, ln_189, tn_190, ln_190, tn_191, ln_191, tn_192, ln_192, tn_193, ln_193, tn_194, ln_194, tn_195, ln_195, tn_196, ln_196, tn_197, ln_197, tn_198, ln_198, tn_199, ln_199, tn_200, ln_200, tn_201, ln_201, tn_202, ln_202, tn_203, ln_203, tn_204, ln_204, tn_205, ln_205, tn_206, ln_206, tn_207, ln_207, tn_208, ln_208, tn_209, ln_209, tn_210, ln_210, tn_211, ln_211, tn_212, ln_212, tn_213, ln_213, tn_214, ln_214, tn_215, ln_215, tn_216, ln_216, tn_217, ln_217, tn_218, ln_218, tn_219, ln_219, tn_220, ln_220, tn_221, ln_221, tn_222, ln_222, tn_223, ln_223, tn_224, ln_224, tn_225, ln_225, tn_226, ln_226, tn_227, ln_227, tn_228, ln_228, tn_229, ln_229, tn_230, ln_230, lx2, lx3, lx4, lx5, lx6, lx7, lx8, lx9, lx10, lx14, lx15, lx16, lx18, lx20, lx24, lx25, lx27, lx32, lx36, lx40, lx41, lx42, lx43, lx45, lx48, lx52, lx54, lx56, lx57, lx58, lx60, lx61, lx62, lx63, lx64, lx66, lx69, lx73, lx80, lx81, lx84, lx85, lx87, lx94, lx96, lx97, lx120, lx128, lx135, lx160, lx162, lx163, lx165, lx200, lx232, lx242, lx243, lx255, lx256, lx320, lx325, lx400, lx405, lx464, lx512, lx600, lx640, lx752, lx900, lx940, lx1000, lx1024, lx1764, lx3360, lx3840, lx5000, lx6400, lx9050, lx9998, lx9999, lx10000, lx25600, lx76800, lx99999]
    refine ⟨fun ne => ⟨by omega, ?_⟩, fun e => ⟨by omega, ?_⟩⟩
    · rw [if_neg ne] at hP
      rw [h7 x y hx (by omega) hy nx (c - 8) (by omega)]
      unfold tW at hP ⊢
      rw [if_neg ne] at hP ⊢
      exact hP
    · rw [if_pos e] at hP
      have := h6 (c - 8) (by omega)
      rw [Nat.mul_zero, Nat.zero_add] at this
      rw [this]; exact hP
  refine ⟨fun c8 => ⟨fun nx => f40 c8 fun w => nx w.1, fun ex => ⟨fun ey => ?_, fun ny => f40 c8 fun w => ny w.2⟩⟩, fun c8 => ?_⟩
  · rw [if_neg (by omega), if_pos ⟨ex, ey⟩] at hP
    subst ex; subst ey
    cases o with
    | none =>
      have e1 : ¬ (0 ≤ oVI none) := by unfold oVI; decide
      exact ⟨fun q => absurd q e1, fun _ => hP⟩
    | some w =>
      obtain ⟨w1, w2, w3, w4⟩ := h9 w rfl
      have e1 : 0 ≤ oVI (some w) := nI_pos' (by omega)
      refine ⟨fun _ => ?_, fun q => absurd e1 q⟩
      rw [n_sub c8]
      refine ⟨rfl, g, ρ, c - 8, x, y, w, by omega, hxy, h5, w1, rfl, rfl, rfl, rfl, w2, w3, w4, ?_⟩
      simp (disch := omega) only [k_X12_symbolOn_0, k_X12_symbolOn_25, k_X12_symbolOn_26, k_X12_symbolOn_78, k_X12_symbolOn_101, w_RIIII, x_aload, x_iadd, x_iald, x_icmp_eq, x_icmp_ge, x_icmp_ne, x_if_ge, x_iload, x_imul, x_iret, x_isub, x_push, y_cv4, y_getF, y_iald, xFT, xbool0, xbool1, Nat.reduceAdd, Nat.zero_add, xgl_0, xgl_s, xgl_n, xst_0, xst_1n, xst_1i, xst_1r, xst_1l, xst_s, set_0, set_s, true_and, and_true, xres, xcat_nil, xcat_i, xcat_r, xcat_l, Nat.add_zero, xble0, xble1, xble2, xble3, xble4, xble5, xble6, xble7, xble8, pk_mul, nI_add, nI_1, nI_leI, nI_ltI, nI_eq, n_in, n_cl, z_eq, z_lt, z_le, z_gt, z_ge, z_qe, o_eq, o_lt, o_le, o_gt, o_ge, vp0, vp1, cl0, cl1, n_sub, n_sub1, n_pm1, n_a0, n_0a, ofn, lN0, Nat.reduceLT, Nat.reduceLeDiff, Nat.reduceMul, Nat.reduceSub, Nat.reduceEqDiff, ne_eq, true_implies, false_implies, not_true_eq_false, not_false_eq_true, and_self, and_true, true_and, and_false, false_and, implies_true, if_true, if_false, i00, i10, i01, i11, ob_0, ob_1, tn_2, ln_2, ob_3, tn_4, ln_4, ob_5, tn_6, ln_6, tn_7, ln_7, ob_8, tn_9, ln_9, tn_10, ln_10, tn_11, ln_11, tn_12, ln_12, tn_13, ln_13, tn_14, ln_14, tn_15, ln_15, tn_16, ln_16, tn_17, ln_17, ob_18, tn_19, ln_19, tn_20, ln_20, tn_21, ln_21, tn_22, ln_22, tn_23, ln_23, tn_24, ln_24, tn_25, ln_25, tn_26, ln_26, tn_27, ln_27, ob_28, tn_29, ln_29, tn_30, ln_30, ob_31, tn_32, ln_32, tn_33, ln_33, ob_34, ob_35, tn_36, ln_36, tn_37, ln_37, tn_38, ln_38, ob_39, tn_40, ln_40, tn_41, ln_41, tn_42, ln_42, tn_43, ln_43, tn_44, ln_44, tn_45, ln_45, tn_46, ln_46, tn_47, ln_47, tn_48, ln_48, tn_49, ln_49, tn_50, ln_50, tn_51, ln_51, ob_52, tn_53, ln_53, tn_54, ln_54, tn_55, ln_55, tn_56, ln_56, ob_57, tn_58, ln_58, tn_59, ln_59, tn_60, ln_60, tn_61, ln_61, tn_62, ln_62, tn_63, ln_63, tn_64, ln_64, tn_65, ln_65, ob_66, tn_67, ln_67, tn_68, ln_68, tn_69, ln_69, tn_70, ln_70, tn_71, ln_71, tn_72, ln_72, tn_73, ln_73, ob_74, tn_75, ln_75, tn_76, ln_76, tn_77, ln_77, tn_78, ln_78, tn_79, ln_79, tn_80, ln_80, tn_81, ln_81, tn_82, ln_82, tn_83, ln_83, ob_84, tn_85, ln_85, tn_86, ln_86, tn_87, ln_87, tn_88, ln_88, tn_89, ln_89, tn_90, ln_90, tn_91, ln_91, tn_92, ln_92, tn_93, ln_93, ob_94, tn_95, ln_95, tn_96, ln_96, tn_97, ln_97, tn_98, ln_98, tn_99, ln_99, tn_100, ln_100, tn_101, ln_101, tn_102, ln_102, tn_103, ln_103, ob_104, tn_105, ln_105, tn_106, ln_106, tn_107, ln_107, tn_108, ln_108, tn_109, ln_109, tn_110, ln_110, tn_111, ln_111, tn_112, ln_112, tn_113, ln_113, ob_114, tn_115, ln_115, tn_116, ln_116, tn_117, ln_117, tn_118, ln_118, tn_119, ln_119, tn_120, ln_120, tn_121, ln_121, tn_122, ln_122, tn_123, ln_123, ob_124, tn_125, ln_125, tn_126, ln_126, tn_127, ln_127, tn_128, ln_128, tn_129, ln_129, tn_130, ln_130, tn_131, ln_131, tn_132, ln_132, tn_133, ln_133, ob_134, tn_135, ln_135, tn_136, ln_136, tn_137, ln_137, tn_138, ln_138, tn_139, ln_139, tn_140, ln_140, tn_141, ln_141, tn_142, ln_142, tn_143, ln_143, ob_144, tn_145, ln_145, tn_146, ln_146, tn_147, ln_147, tn_148, ln_148, tn_149, ln_149, tn_150, ln_150, tn_151, ln_151, tn_152, ln_152, tn_153, ln_153, ob_154, tn_155, ln_155, tn_156, ln_156, tn_157, ln_157, tn_158, ln_158, tn_159, ln_159, tn_160, ln_160, tn_161, ln_161, tn_162, ln_162, tn_163, ln_163, ob_164, tn_165, ln_165, tn_166, ln_166, ob_167, tn_168, ln_168, tn_169, ln_169, tn_170, ln_170, tn_171, ln_171, tn_172, ln_172, tn_173, ln_173, tn_174, ln_174, tn_175, ln_175, tn_176, ln_176, ob_177, tn_178, ln_178, tn_179, ln_179, ob_180, tn_181, ln_181, tn_182, ln_182, tn_183, ln_183, tn_184, ln_184, tn_185, ln_185, tn_186, ln_186, tn_187, ln_187, tn_188, ln_188, tn_189, ln_189, tn_190, ln_190, tn_191, ln_191, tn_192, ln_192, tn_193, ln_193, tn_194, ln_194, tn_195, ln_195, tn_196, ln_196, tn_197, ln_197, tn_198, ln_198, tn_199, ln_199, tn_200, ln_200, tn_201, ln_201, tn_202, ln_202, tn_203, ln_203, tn_204, ln_204, tn_205, ln_205, tn_206, ln_206, tn_207, ln_207, tn_208, ln_208, tn_209, ln_209, tn_210, ln_210, tn_211, ln_211, tn_212, ln_212, tn_213, ln_213, tn_214, ln_214, tn_215, ln_215, tn_216, ln_216, tn_217, ln_217, tn_218, ln_218, tn_219, ln_219, tn_220, ln_220, tn_221, ln_221, tn_222, ln_222, tn_223, ln_223, tn_224, ln_224, tn_225, ln_225, tn_226, ln_226, tn_227, ln_227, tn_228, ln_228, tn_229, ln_229, tn_230, ln_230, lx2, lx3, lx4, lx5, lx6, lx7, lx8, lx9, lx10, lx14, lx15, lx16, lx18, lx20, lx24, lx25, lx27, lx32, lx36, lx40, lx41, lx42, lx43, lx45, lx48, lx52, lx54, lx56, lx57, lx58, lx60, lx61, lx62, lx63, lx64, lx66, lx69, lx73, lx80, lx81, lx84, lx85, lx87, lx94, lx96, lx97, lx120, lx128, lx135, lx160, lx162, lx163, lx165, lx200, lx232, lx242, lx243, lx255, lx256, lx320, lx325, lx400, lx405, lx464, lx512, lx600, lx640, lx752, lx900, lx940, lx1000, lx1024, lx1764, lx3360, lx3840, lx5000, lx6400, lx9050, lx9998, lx9999, lx10000, lx25600, lx76800, lx99999, ts, ns]
      exact hP
  · rw [if_pos (by omega)] at hP
    refine ⟨fun ny => ?_, fun ey => ⟨by omega, fun ns => ?_, fun es => ?_⟩⟩
    · rw [if_neg fun w => ny w.1] at hP; exact hP
    · obtain ⟨q1, q2⟩ := h8 x hx (by omega)
      rw [q1, nI_eq q2 (by omega)] at ns
      rw [if_neg fun w => ns w.2] at hP; exact hP
    · obtain ⟨q1, q2⟩ := h8 x hx (by omega)
      rw [q1, nI_eq q2 (by omega)] at es
      rw [if_pos ⟨ey, es⟩] at hP; exact hP

