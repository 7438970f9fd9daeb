theorem d_X12_readName_0 : decode cX12_readName 0 = .ok (.aload_n 0, 1) := by decide +kernel
theorem d_X12_readName_1 : decode cX12_readName 1 = .ok (.getfield 34, 3) := by decide +kernel
theorem d_X12_readName_4 : decode cX12_readName 4 = .ok (.iload_n 2, 1) := by decide +kernel
theorem d_X12_readName_5 : decode cX12_readName 5 = .ok (.iaload, 1) := by decide +kernel
theorem d_X12_readName_6 : decode cX12_readName 6 = .ok (.iload_n 3, 1) := by decide +kernel
theorem d_X12_readName_7 : decode cX12_readName 7 = .ok (.if_icmp .ne 9, 3) := by decide +kernel
theorem d_X12_readName_10 : decode cX12_readName 10 = .ok (.aload_n 0, 1) := by decide +kernel
theorem d_X12_readName_11 : decode cX12_readName 11 = .ok (.iconst 4, 1) := by decide +kernel
theorem d_X12_readName_12 : decode cX12_readName 12 = .ok (.invokevirtual 258, 3) := by decide +kernel
theorem d_X12_readName_15 : decode cX12_readName 15 = .ok (.ireturn, 1) := by decide +kernel
theorem d_X12_readName_16 : decode cX12_readName 16 = .ok (.aload_n 0, 1) := by decide +kernel
theorem d_X12_readName_17 : decode cX12_readName 17 = .ok (.invokevirtual 261, 3) := by decide +kernel
theorem d_X12_readName_20 : decode cX12_readName 20 = .ok (.aload_n 0, 1) := by decide +kernel
theorem d_X12_readName_21 : decode cX12_readName 21 = .ok (.invokevirtual 271, 3) := by decide +kernel
theorem d_X12_readName_24 : decode cX12_readName 24 = .ok (.ifCond .ne 9, 3) := by decide +kernel
theorem d_X12_readName_27 : decode cX12_readName 27 = .ok (.aload_n 0, 1) := by decide +kernel
theorem d_X12_readName_28 : decode cX12_readName 28 = .ok (.iconst 1, 1) := by decide +kernel
theorem d_X12_readName_29 : decode cX12_readName 29 = .ok (.invokevirtual 258, 3) := by decide +kernel
theorem d_X12_readName_32 : decode cX12_readName 32 = .ok (.ireturn, 1) := by decide +kernel
theorem d_X12_readName_33 : decode cX12_readName 33 = .ok (.aload_n 0, 1) := by decide +kernel
theorem d_X12_readName_34 : decode cX12_readName 34 = .ok (.bipush 9, 2) := by decide +kernel
theorem d_X12_readName_36 : decode cX12_readName 36 = .ok (.aload_n 0, 1) := by decide +kernel
theorem d_X12_readName_37 : decode cX12_readName 37 = .ok (.getfield 34, 3) := by decide +kernel
theorem d_X12_readName_40 : decode cX12_readName 40 = .ok (.iconst 0, 1) := by decide +kernel
theorem d_X12_readName_41 : decode cX12_readName 41 = .ok (.iaload, 1) := by decide +kernel
theorem d_X12_readName_42 : decode cX12_readName 42 = .ok (.invokevirtual 275, 3) := by decide +kernel
theorem d_X12_readName_45 : decode cX12_readName 45 = .ok (.ifCond .ge 18, 3) := by decide +kernel
theorem d_X12_readName_48 : decode cX12_readName 48 = .ok (.aload_n 0, 1) := by decide +kernel
theorem d_X12_readName_49 : decode cX12_readName 49 = .ok (.bipush 13, 2) := by decide +kernel
theorem d_X12_readName_51 : decode cX12_readName 51 = .ok (.aload_n 0, 1) := by decide +kernel
theorem d_X12_readName_52 : decode cX12_readName 52 = .ok (.getfield 34, 3) := by decide +kernel
theorem d_X12_readName_55 : decode cX12_readName 55 = .ok (.iconst 1, 1) := by decide +kernel
theorem d_X12_readName_56 : decode cX12_readName 56 = .ok (.iaload, 1) := by decide +kernel
theorem d_X12_readName_57 : decode cX12_readName 57 = .ok (.invokevirtual 275, 3) := by decide +kernel
theorem d_X12_readName_60 : decode cX12_readName 60 = .ok (.ifCond .lt 9, 3) := by decide +kernel
theorem d_X12_readName_63 : decode cX12_readName 63 = .ok (.aload_n 0, 1) := by decide +kernel
theorem d_X12_readName_64 : decode cX12_readName 64 = .ok (.iconst 3, 1) := by decide +kernel
theorem d_X12_readName_65 : decode cX12_readName 65 = .ok (.invokevirtual 258, 3) := by decide +kernel
theorem d_X12_readName_68 : decode cX12_readName 68 = .ok (.ireturn, 1) := by decide +kernel
theorem d_X12_readName_69 : decode cX12_readName 69 = .ok (.aload_n 0, 1) := by decide +kernel
theorem d_X12_readName_70 : decode cX12_readName 70 = .ok (.getfield 43, 3) := by decide +kernel
theorem d_X12_readName_73 : decode cX12_readName 73 = .ok (.iload_n 1, 1) := by decide +kernel
theorem d_X12_readName_74 : decode cX12_readName 74 = .ok (.aload_n 0, 1) := by decide +kernel
theorem d_X12_readName_75 : decode cX12_readName 75 = .ok (.getfield 34, 3) := by decide +kernel
theorem d_X12_readName_78 : decode cX12_readName 78 = .ok (.iload_n 2, 1) := by decide +kernel
theorem d_X12_readName_79 : decode cX12_readName 79 = .ok (.iaload, 1) := by decide +kernel
theorem d_X12_readName_80 : decode cX12_readName 80 = .ok (.iadd, 1) := by decide +kernel
theorem d_X12_readName_81 : decode cX12_readName 81 = .ok (.aload_n 0, 1) := by decide +kernel
theorem d_X12_readName_82 : decode cX12_readName 82 = .ok (.getfield 245, 3) := by decide +kernel
theorem d_X12_readName_85 : decode cX12_readName 85 = .ok (.lastore, 1) := by decide +kernel
theorem d_X12_readName_86 : decode cX12_readName 86 = .ok (.aload_n 0, 1) := by decide +kernel
theorem d_X12_readName_87 : decode cX12_readName 87 = .ok (.getfield 34, 3) := by decide +kernel
theorem d_X12_readName_90 : decode cX12_readName 90 = .ok (.iload_n 2, 1) := by decide +kernel
theorem d_X12_readName_91 : decode cX12_readName 91 = .ok (.dup2, 1) := by decide +kernel
theorem d_X12_readName_92 : decode cX12_readName 92 = .ok (.iaload, 1) := by decide +kernel
theorem d_X12_readName_93 : decode cX12_readName 93 = .ok (.iconst 1, 1) := by decide +kernel
theorem d_X12_readName_94 : decode cX12_readName 94 = .ok (.iadd, 1) := by decide +kernel
theorem d_X12_readName_95 : decode cX12_readName 95 = .ok (.iastore, 1) := by decide +kernel
theorem d_X12_readName_96 : decode cX12_readName 96 = .ok (.aload_n 0, 1) := by decide +kernel
theorem d_X12_readName_97 : decode cX12_readName 97 = .ok (.invokevirtual 261, 3) := by decide +kernel
theorem d_X12_readName_100 : decode cX12_readName 100 = .ok (.iconst 1, 1) := by decide +kernel
theorem d_X12_readName_101 : decode cX12_readName 101 = .ok (.ireturn, 1) := by decide +kernel
def k_X12_readName_63 (P : xP) : xK := x_aload 0 (x_push (.int 3) (y_cv1 180 (w_RI f_X12_bad) (x_zret P)))
set_option maxRecDepth 20000 in
theorem t_X12_readName_63 {p : Program} {l : Launch} {e : Env} {s : State} {m : MethodId} {args : Array Value} {below : List Frame} {meth : Method} {c : Code} {g : xG} (X : xX p s m args c meth cX12_readName RX12 4 g) (hr : meth.sig.returnType = (some .boolean)) {P : xP} : xAt p l e { frames := 2, cells := 0, slots := 0, locals := 43 } s m args below meth c g 4 xFT xN 0 0 (MQ below (xQc g xFT xN P) args s 0 0 (xFr g)) (k_X12_readName_63 P) 63 := by
  unfold k_X12_readName_63
  refine r_aload_n (pc := 63) X d_X12_readName_63 fn0 ?_
  refine r_iconst (pc := 64) X d_X12_readName_64 (by decide +kernel) ?_
  refine s_cv1 (pc := 65) (ci := 12) X xok12 (by decide +kernel) ob_180 rfl (con_X12_bad l) mf_X12_bad ml_RX12_258 (by decide +kernel) (by decide +kernel) d_X12_readName_65 ?_
  exact r_zret (pc := 68) X hr d_X12_readName_68
def k_X12_readName_0 (P : xP) : xK := x_aload 0 (y_getF 180 183 (x_iload 2 (y_iald 183 54 (x_iload 3 (x_icmp_ne (x_aload 0 (y_cv0 180 (w_R f_X12_next) (x_aload 0 (y_cv0 180 (w_R f_X12_isName) (x_if_ne (x_aload 0 (x_push (.int 9) (x_aload 0 (y_getF 180 183 (x_push (.int 0) (y_iald 183 54 (y_cv2 180 (w_RII f_X12_seek) (x_if_ge ((k_X12_readName_63 P)) (x_aload 0 (x_push (.int 13) (x_aload 0 (y_getF 180 183 (x_push (.int 1) (y_iald 183 54 (y_cv2 180 (w_RII f_X12_seek) (x_if_lt (x_aload 0 (y_getF 180 186 (x_iload 1 (x_aload 0 (y_getF 180 183 (x_iload 2 (y_iald 183 54 (x_iadd (x_aload 0 (y_getJ 180 17 (y_last 186 18 (x_aload 0 (y_getF 180 183 (x_iload 2 (x_dup2 (y_iald 183 54 (x_push (.int 1) (x_iadd (y_iast 183 54 (x_aload 0 (y_cv0 180 (w_R f_X12_next) (x_push (.int 1) (x_zret P))))))))))))))))))))))) ((k_X12_readName_63 P)))))))))))))))))) (x_aload 0 (x_push (.int 1) (y_cv1 180 (w_RI f_X12_bad) (x_zret P))))))))) (x_aload 0 (x_push (.int 4) (y_cv1 180 (w_RI f_X12_bad) (x_zret P)))))))))
set_option maxRecDepth 20000 in
theorem t_X12_readName_0 {p : Program} {l : Launch} {e : Env} {s : State} {m : MethodId} {args : Array Value} {below : List Frame} {meth : Method} {c : Code} {g : xG} (X : xX p s m args c meth cX12_readName RX12 4 g) (hr : meth.sig.returnType = (some .boolean)) {P : xP} : xAt p l e { frames := 2, cells := 0, slots := 0, locals := 43 } s m args below meth c g 4 xFT xN 0 0 (MQ below (xQc g xFT xN P) args s 0 0 (xFr g)) (k_X12_readName_0 P) 0 := by
  unfold k_X12_readName_0
  refine r_aload_n (pc := 0) X d_X12_readName_0 fn0 ?_
  refine s_getF (pc := 1) (ci := 12) (k := 6) X xok12 (by decide +kernel) ob_180 trivial ly_180_6 (by decide +kernel) fl_RX12_34 d_X12_readName_1 ?_
  refine r_iload_n (pc := 4) X d_X12_readName_4 fn2 ?_
  refine s_iald (pc := 5) X tn_183 ln_183 d_X12_readName_5 ?_
  refine r_iload_n (pc := 6) X d_X12_readName_6 fn3 ?_
  refine r_icmp_ne (pc := 7) (tgt := 16) X d_X12_readName_7 (by decide +kernel) ?_ ?_
  · refine r_aload_n (pc := 16) X d_X12_readName_16 fn0 ?_
    refine s_cv0 (pc := 17) (ci := 12) X xok12 (by decide +kernel) ob_180 rfl (con_X12_next l) mf_X12_next ml_RX12_261 (by decide +kernel) (by decide +kernel) d_X12_readName_17 ?_
    refine r_aload_n (pc := 20) X d_X12_readName_20 fn0 ?_
    refine s_cv0 (pc := 21) (ci := 12) X xok12 (by decide +kernel) ob_180 rfl (con_X12_isName l) mf_X12_isName ml_RX12_271 (by decide +kernel) (by decide +kernel) d_X12_readName_21 ?_
    refine r_if_ne (pc := 24) (tgt := 33) X d_X12_readName_24 (by decide +kernel) ?_ ?_
    · refine r_aload_n (pc := 33) X d_X12_readName_33 fn0 ?_
      refine r_bipush (pc := 34) X d_X12_readName_34 (by decide +kernel) ?_
      refine r_aload_n (pc := 36) X d_X12_readName_36 fn0 ?_
      refine s_getF (pc := 37) (ci := 12) (k := 6) X xok12 (by decide +kernel) ob_180 trivial ly_180_6 (by decide +kernel) fl_RX12_34 d_X12_readName_37 ?_
      refine r_iconst (pc := 40) X d_X12_readName_40 (by decide +kernel) ?_
      refine s_iald (pc := 41) X tn_183 ln_183 d_X12_readName_41 ?_
      refine s_cv2 (pc := 42) (ci := 12) X xok12 (by decide +kernel) ob_180 rfl (con_X12_seek l) mf_X12_seek ml_RX12_275 (by decide +kernel) (by decide +kernel) d_X12_readName_42 ?_
      refine r_if_ge (pc := 45) (tgt := 63) X d_X12_readName_45 (by decide +kernel) ?_ ?_
      · exact t_X12_readName_63 X hr
      · refine r_aload_n (pc := 48) X d_X12_readName_48 fn0 ?_
        refine r_bipush (pc := 49) X d_X12_readName_49 (by decide +kernel) ?_
        refine r_aload_n (pc := 51) X d_X12_readName_51 fn0 ?_
        refine s_getF (pc := 52) (ci := 12) (k := 6) X xok12 (by decide +kernel) ob_180 trivial ly_180_6 (by decide +kernel) fl_RX12_34 d_X12_readName_52 ?_
        refine r_iconst (pc := 55) X d_X12_readName_55 (by decide +kernel) ?_
        refine s_iald (pc := 56) X tn_183 ln_183 d_X12_readName_56 ?_
        refine s_cv2 (pc := 57) (ci := 12) X xok12 (by decide +kernel) ob_180 rfl (con_X12_seek l) mf_X12_seek ml_RX12_275 (by decide +kernel) (by decide +kernel) d_X12_readName_57 ?_
        refine r_if_lt (pc := 60) (tgt := 69) X d_X12_readName_60 (by decide +kernel) ?_ ?_
        · refine r_aload_n (pc := 69) X d_X12_readName_69 fn0 ?_
          refine s_getF (pc := 70) (ci := 12) (k := 9) X xok12 (by decide +kernel) ob_180 trivial ly_180_9 (by decide +kernel) fl_RX12_43 d_X12_readName_70 ?_
          refine r_iload_n (pc := 73) X d_X12_readName_73 fn1 ?_
          refine r_aload_n (pc := 74) X d_X12_readName_74 fn0 ?_
          refine s_getF (pc := 75) (ci := 12) (k := 6) X xok12 (by decide +kernel) ob_180 trivial ly_180_6 (by decide +kernel) fl_RX12_34 d_X12_readName_75 ?_
          refine r_iload_n (pc := 78) X d_X12_readName_78 fn2 ?_
          refine s_iald (pc := 79) X tn_183 ln_183 d_X12_readName_79 ?_
          refine r_iadd (pc := 80) X d_X12_readName_80 ?_
          refine r_aload_n (pc := 81) X d_X12_readName_81 fn0 ?_
          refine s_getJ (pc := 82) (ci := 12) X xok12 (by decide +kernel) ob_180 (by decide +kernel) fl_RX12_245 d_X12_readName_82 ?_
          refine s_last (pc := 85) X tn_186 ln_186 d_X12_readName_85 ?_
          refine r_aload_n (pc := 86) X d_X12_readName_86 fn0 ?_
          refine s_getF (pc := 87) (ci := 12) (k := 6) X xok12 (by decide +kernel) ob_180 trivial ly_180_6 (by decide +kernel) fl_RX12_34 d_X12_readName_87 ?_
          refine r_iload_n (pc := 90) X d_X12_readName_90 fn2 ?_
          refine r_dup2 (pc := 91) X d_X12_readName_91 ?_
          refine s_iald (pc := 92) X tn_183 ln_183 d_X12_readName_92 ?_
          refine r_iconst (pc := 93) X d_X12_readName_93 (by decide +kernel) ?_
          refine r_iadd (pc := 94) X d_X12_readName_94 ?_
          refine s_iast (pc := 95) X tn_183 ln_183 d_X12_readName_95 ?_
          refine r_aload_n (pc := 96) X d_X12_readName_96 fn0 ?_
          refine s_cv0 (pc := 97) (ci := 12) X xok12 (by decide +kernel) ob_180 rfl (con_X12_next l) mf_X12_next ml_RX12_261 (by decide +kernel) (by decide +kernel) d_X12_readName_97 ?_
          refine r_iconst (pc := 100) X d_X12_readName_100 (by decide +kernel) ?_
          exact r_zret (pc := 101) X hr d_X12_readName_101
        · exact t_X12_readName_63 X hr
    · refine r_aload_n (pc := 27) X d_X12_readName_27 fn0 ?_
      refine r_iconst (pc := 28) X d_X12_readName_28 (by decide +kernel) ?_
      refine s_cv1 (pc := 29) (ci := 12) X xok12 (by decide +kernel) ob_180 rfl (con_X12_bad l) mf_X12_bad ml_RX12_258 (by decide +kernel) (by decide +kernel) d_X12_readName_29 ?_
      exact r_zret (pc := 32) X hr d_X12_readName_32
  · refine r_aload_n (pc := 10) X d_X12_readName_10 fn0 ?_
    refine r_iconst (pc := 11) X d_X12_readName_11 (by decide +kernel) ?_
    refine s_cv1 (pc := 12) (ci := 12) X xok12 (by decide +kernel) ob_180 rfl (con_X12_bad l) mf_X12_bad ml_RX12_258 (by decide +kernel) (by decide +kernel) d_X12_readName_12 ?_
    exact r_zret (pc := 15) X hr d_X12_readName_15
set_option maxRecDepth 20000 in
theorem m_X12_readName {l : Launch} {f : Nat → Int32 → Int32 → Int32 → xH → xP → Prop} 
    (v0 : ∀ (a0 : Nat) (a1 : Int32) (a2 : Int32) (a3 : Int32) (A : xH) (P : xP), f a0 a1 a2 a3 A P → k_X12_readName_0 P [some (.ref a0), some (.int a1), some (.int a2), some (.int a3)] [] A) : xCon l yX12_readName cX12_readName 4 (some .boolean) 2 43 xN xN 0 xFT xFT (w_RIII f) := by
  refine xc_RIII (plainFor_of_name pn_RX12) (by decide +kernel) (fun p e s m args below meth c g a0 a1 a2 a3 A P h X hr _ => ?_)
  exact ⟨_, v0 a0 a1 a2 a3 A P h, t_X12_readName_0 X hr⟩
/-- a row of a rule -/
def isRw (A : xH) (c o : Nat) (v : xV) (r : Nat) : Prop := xi A c o = nI (vrk v r) ∧ xi A c (o + 1) = nI (vrs v r) ∧ ∀ t, t < 3 → xi A c (o + 2 + t) = if t < vrs v r then nI (vsy v r t) else -1
/-- the reference's row of numbers, while it reads a grammar -/
def isH (A : xH) (v : xV) : Prop := (xi A 183 0 = nI (vS v) ∧ xi A 183 1 = nI (vK v) ∧ xi A 183 2 = nI (vR v) ∧ xi A 183 3 = 0) ∧ nmU A 9 v ∧ vR v ≤ 10 ∧ dj v ∧ ∀ r, r < vR v → isRw A 183 (4 + 5 * r) v r
/-- the reader of the reference alone is otherwise -/
def kS (A B : xH) : Prop := (∀ c, c ≠ 180 → c ≠ 183 → c ≠ 186 → B.1 c = A.1 c ∧ B.2.1 c = A.2.1 c) ∧ B.2.2 = A.2.2 ∧ (∀ k, k ≠ 3 → k ≠ 11 → k ≠ 12 → k ≠ 13 → k ≠ 14 → k ≠ 15 → k ≠ 16 → k ≠ 18 → xi B 180 k = xi A 180 k) ∧ (∀ k, k ≠ 17 → xl B 180 k = xl A 180 k) ∧ (∀ k, k < 9 → xl B 186 k = xl A 186 k)
theorem kS_rf {A : xH} : kS A A := ⟨fun _ _ _ _ => ⟨rfl, rfl⟩, rfl, fun _ _ _ _ _ _ _ _ _ => rfl, fun _ _ => rfl, fun _ _ => rfl⟩
theorem kS_tr {A B C : xH} (h : kS A B) (h2 : kS B C) : kS A C :=
  ⟨fun c a b d => ⟨(h2.1 c a b d).1.trans (h.1 c a b d).1, (h2.1 c a b d).2.trans (h.1 c a b d).2⟩, h2.2.1.trans h.2.1, fun k a b c d e g i j => (h2.2.2.1 k a b c d e g i j).trans (h.2.2.1 k a b c d e g i j), fun k a => (h2.2.2.2.1 k a).trans (h.2.2.2.1 k a), fun k a => (h2.2.2.2.2 k a).trans (h.2.2.2.2 k a)⟩
theorem kS_uS {A B : xH} (h : uS A B) : kS A B :=
  ⟨fun c a _ _ => h.1.1 c (by omega), h.1.2, fun k a b c d e _ _ _ => h.2.1 k a b c d e, h.2.2, fun k _ => xoff_l h.1 (by omega)⟩
theorem kS_qS {to : Nat} {A B : xH} (h : qS 183 to A B) : kS A B :=
  ⟨fun c a b _ => h.1 c a b, h.2.1, fun k a b c d e _ _ g => h.2.2.1 k a b c d e g, h.2.2.2.1, fun k _ => congrFun (h.1 186 (by omega) (by omega)).2 k⟩
theorem kS_si {A B : xH} {c k : Nat} {x : Int32} (h : kS A B) (hc : (c = 180 ∧ (k = 15 ∨ k = 16 ∨ k = 18)) ∨ c = 183) : kS A (xsi B c k x) := by
  obtain ⟨h1, h2, h3, h4, h5⟩ := h
  refine ⟨fun d a b e => ⟨?_, (h1 d a b e).2⟩, h2, fun j a b c d e g i l => ?_, h4, h5⟩
  · rw [← (h1 d a b e).1]
    have hne : d ≠ c := by omega
    funext j
    simp [xsi, hne]
  · rw [si_ne (by omega)]; exact h3 j a b c d e g i l
theorem kS_sl {A B : xH} {k : Nat} {x : Int64} (h : kS A B) (hk : 9 ≤ k) : kS A (xsl B 186 k x) := by
  obtain ⟨h1, h2, h3, h4, h5⟩ := h
  refine ⟨fun d a b e => ⟨(h1 d a b e).1, ?_⟩, h2, h3, fun j a => ?_, fun j a => ?_⟩
  · rw [← (h1 d a b e).2]
    have hne : d ≠ 186 := by omega
    funext j
    simp [xsl, hne]
  · rw [xl_sl, if_neg (by omega)]; exact h4 j a
  · rw [xl_sl, if_neg (by omega)]; exact h5 j a
theorem uT_sl {A : xH} {f : Nat → Nat} {n lim p k : Nat} {x : Int64} (h : uT A f n lim p) : uT (xsl A 186 k x) f n lim p := by
  obtain ⟨h1, h4, h5, h6, h7, t1, t2, t3, t4, t5⟩ := h
  exact ⟨h1, h4, h5, h6, fun j hj => by rw [xl_sl, if_neg (by omega)]; exact h7 j hj, t1, t2, t3, fun q => by rw [xl_sl, if_neg (by omega)]; exact t4 q, t5⟩
def nlU (v : xV) (f : Nat → Nat) (n lim p : Nat) (s : Bool) : (Nat × Nat) ⊕ (xV × Nat) :=
  if isNa (tk f n lim (tk f n lim p).2.2.1) = false then .inl (1, (tk f n lim (tk f n lim p).2.2.1).2.1)
  else if vfind v (lN (tk f n lim (tk f n lim p).2.2.1).2.2.2) ≠ -1 then .inl (3, (tk f n lim (tk f n lim p).2.2.1).2.1)
  else .inr (if s then vnewS v (lN (tk f n lim (tk f n lim p).2.2.1).2.2.2) else vnewK v (lN (tk f n lim (tk f n lim p).2.2.1).2.2.2), (tk f n lim (tk f n lim p).2.2.1).2.2.1)
def KL1 (A : xH) (P : xP) (r : (Nat × Nat) ⊕ (xV × Nat)) : Prop := ∀ B e d, r = .inl (e, d) → kS A B → P (some (.int 0)) (fltU B e d)
def KL2 (A : xH) (P : xP) (f : Nat → Nat) (n lim : Nat) (r : (Nat × Nat) ⊕ (xV × Nat)) : Prop := ∀ B v z, r = .inr (v, z) → kS A B → xi B 180 15 = xi A 180 15 → isH B v → uT B f n lim z → P (some (.int 1)) B
theorem fnd_no {v : xV} {w : Int64} (h1 : vS v ≤ 4) (h2 : vK v ≤ 5) : vfind v w = -1 ↔ ¬ idx (vsn v) w (vS v) < vS v ∧ ¬ idx (vkn v) w (vK v) < vK v := by
  unfold vfind
  constructor
  · intro h
    by_cases a : idx (vsn v) w (vS v) < vS v
    · rw [if_pos a] at h; exact absurd h (n_ne1 (by omega))
    · rw [if_neg a] at h
      by_cases b : idx (vkn v) w (vK v) < vK v
      · rw [if_pos b] at h; exact absurd h (n_ne1 (by omega))
      · exact ⟨a, b⟩
  · rintro ⟨a, b⟩
    rw [if_neg a, if_neg b]
theorem ite_ge {p : Prop} [Decidable p] {c : Nat} (hc : c < 2 ^ 31) : ((0 : Int32) ≤ if p then nI c else -1) = p := by
  by_cases h : p
  · rw [if_pos h]; simp [h, nI_pos' hc]
  · rw [if_neg h]; simp [h]
theorem ite_lt {p : Prop} [Decidable p] {c : Nat} (hc : c < 2 ^ 31) : ((if p then nI c else -1) < (0 : Int32)) = ¬ p := by
  by_cases h : p
  · rw [if_pos h]; simp [h, nI_pos hc]
  · rw [if_neg h]; simp [h]
theorem idx_no {g : Nat → Int64} {w : Int64} : ∀ n, ¬ idx g w n < n → ∀ i, i < n → g i ≠ w
  | 0, _, i, hi => by omega
  | n + 1, h, i, hi => by
    simp only [idx] at h
    split at h
    · omega
    · rename_i q
      split at h
      · omega
      · rename_i q2
        by_cases e : i = n
        · rw [e]; exact q2
        · exact idx_no n q i (by omega)
theorem isH_off {A B : xH} {v : xV} (h : isH A v) (h1 : ∀ k, xi B 183 k = xi A 183 k) (h2 : ∀ k, xl B 186 k = xl A 186 k) : isH B v := by
  obtain ⟨⟨b0, b1, b2, b3⟩, hN, hR, hd, hrow⟩ := h
  exact ⟨⟨(h1 _).trans b0, (h1 _).trans b1, (h1 _).trans b2, (h1 _).trans b3⟩, nmU_off hN h2, hR, hd, fun r hr => ⟨(h1 _).trans (hrow r hr).1, (h1 _).trans (hrow r hr).2.1, fun t ht => (h1 _).trans ((hrow r hr).2.2 t ht)⟩⟩
theorem isH_kind {A : xH} {v : xV} {w : Int64} (h : isH A v) (hk : vK v < 5) (hw : vfind v w = -1) : isH (xsi (xsl A 186 (13 + vK v) w) 183 1 (nI (vK v + 1))) (vnewK v w) := by
  obtain ⟨⟨b0, b1, b2, b3⟩, ⟨n1, n2, n3, n4⟩, hR, hd, hrow⟩ := h
  obtain ⟨w1, w2⟩ := (fnd_no n1 n2).mp hw
  refine ⟨⟨?_, si_eq, ?_, ?_⟩, ⟨n1, hk, fun j hj => ?_, fun j hj => ?_⟩, hR, fun i j hi hj => ?_, fun r hr => ⟨?_, ?_, fun t ht => ?_⟩⟩
  · rw [si_ne (by omega)]; exact b0
  · rw [si_ne (by omega)]; exact b2
  · rw [si_ne (by omega)]; exact b3
  · rw [xl_si, xl_sl, if_neg (by have : j < vS v := hj; omega)]; exact n3 j hj
  · rw [xl_si, xl_sl]
    show _ = if j = vK v then w else vkn v j
    by_cases e : j = vK v
    · subst e; rw [if_pos ⟨rfl, by omega⟩, if_pos rfl]
    · rw [if_neg (by omega), if_neg e]
      have : j < vK v + 1 := hj
      exact n4 j (by omega)
  · show vsn v i ≠ if j = vK v then w else vkn v j
    have hj2 : j < vK v + 1 := hj
    split
    · exact idx_no _ w1 i hi
    · exact hd i j hi (by omega)
  · rw [si_ne (by omega)]; exact (hrow r hr).1
  · rw [si_ne (by omega)]; exact (hrow r hr).2.1
  · rw [si_ne (by omega)]; exact (hrow r hr).2.2 t ht
theorem isH_sign {A : xH} {v : xV} {w : Int64} (h : isH A v) (hk : vS v < 4) (hw : vfind v w = -1) : isH (xsi (xsl A 186 (9 + vS v) w) 183 0 (nI (vS v + 1))) (vnewS v w) := by
  obtain ⟨⟨b0, b1, b2, b3⟩, ⟨n1, n2, n3, n4⟩, hR, hd, hrow⟩ := h
  obtain ⟨w1, w2⟩ := (fnd_no n1 n2).mp hw
  refine ⟨⟨si_eq, ?_, ?_, ?_⟩, ⟨hk, n2, fun j hj => ?_, fun j hj => ?_⟩, hR, fun i j hi hj => ?_, fun r hr => ⟨?_, ?_, fun t ht => ?_⟩⟩
  · rw [si_ne (by omega)]; exact b1
  · rw [si_ne (by omega)]; exact b2
  · rw [si_ne (by omega)]; exact b3
  · rw [xl_si, xl_sl]
    show _ = if j = vS v then w else vsn v j
    by_cases e : j = vS v
    · subst e; rw [if_pos ⟨rfl, rfl⟩, if_pos rfl]
    · rw [if_neg (by omega), if_neg e]
      have : j < vS v + 1 := hj
      exact n3 j (by omega)
  · rw [xl_si, xl_sl, if_neg (by omega)]; exact n4 j hj
  · show (if i = vS v then w else vsn v i) ≠ vkn v j
    have hi2 : i < vS v + 1 := hi
    split
    · exact fun e => idx_no _ w2 j hj e.symm
    · exact hd i j (by omega) hj
  · rw [si_ne (by omega)]; exact (hrow r hr).1
  · rw [si_ne (by omega)]; exact (hrow r hr).2.1
  · rw [si_ne (by omega)]; exact (hrow r hr).2.2 t ht
def f_X12_readName (q : Nat) (x y z : Int32) (A : xH) (P : xP) : Prop := q = 180 ∧ ∃ f n lim p v s, x = (if s then 9 else 13) ∧ y = (if s then 0 else 1) ∧ z = (if s then 4 else 5) ∧ uT A f n lim p ∧ (tk f n lim p).1 ≠ 4 ∧ isH A v ∧
  ((if s then vS v = 4 else vK v = 5) → P (some (.int 0)) (fltU A 4 (tk f n lim p).2.1)) ∧ (¬ (if s then vS v = 4 else vK v = 5) → KL1 A P (nlU v f n lim p s) ∧ KL2 A P f n lim (nlU v f n lim p s))
theorem con_X12_readName (l : Launch) : xCon l yX12_readName cX12_readName 4 (some .boolean) 2 43 xN xN 0 xFT xFT (w_RIII f_X12_readName) := by
  refine m_X12_readName ?_
  rintro q x y z A P ⟨rfl, f, n, lim, p, v, s, rfl, rfl, rfl, hu, h4, hH, hf, hK⟩
  have hH0 := hH
  obtain ⟨⟨b0, b1, b2, b3⟩, hN, hR, hd, hrow⟩ := hH
  have hN0 := hN
  obtain ⟨n1, n2, n3, n4⟩ := hN
  have ht := hu.2.2.2.2.2
  have ho := uT_ok hu
  have hgo : ¬ (if s then vS v = 4 else vK v = 5) → ∀ (Q : xP), Q = P → True := fun _ _ _ => trivial
  cases s
  · simp only [Bool.false_eq_true, if_false] at hf hK ⊢
    simp only [k_X12_readName_0, k_X12_readName_63, f_X12_isName, f_X12_seek, w_R, w_RI, w_RII, x_aload, x_dup2, x_iadd, x_icmp_ne, x_if_ge, x_if_lt, x_if_ne, x_iload, x_push, x_zret, y_cv0, y_cv1, y_cv2, y_getF, y_getJ, y_iald, y_iast, y_last, xFT, xbool0, xbool1, Nat.reduceAdd, Nat.zero_add, xgl_0, xgl_s, xgl_n, xst_0, xst_1n, xst_1i, xst_1r, xst_1l, xst_s, set_0, set_s, true_and, and_true, xres, xcat_nil, xcat_i, xcat_r, xcat_l, Nat.add_zero, xble0, xble1, xble2, xble3, xble4, xble5, xble6, xble7, xble8, bad_L 4 ht, cl1, cl0, b1, b0, c_eq 5 (c := vK v) (by omega) (by decide), ne_eq]
    refine ⟨vpl (by decide) (by decide), fun a => next_U hu h4 fun B hS hB => ?_, fun a => hf a⟩
    obtain ⟨k1, k2⟩ := hK a
    have htB := hB.2.2.2.2.2
    have hoB := uT_ok hB
    have e3 : ∀ j, xi B 183 j = xi A 183 j := fun j => xoff_i hS.1 (by omega)
    have e6 : ∀ j, xl B 186 j = xl A 186 j := fun j => xoff_l hS.1 (by omega)
    simp only [k_X12_readName_0, k_X12_readName_63, f_X12_isName, f_X12_seek, w_R, w_RI, w_RII, x_aload, x_dup2, x_iadd, x_icmp_ne, x_if_ge, x_if_lt, x_if_ne, x_iload, x_push, x_zret, y_cv0, y_cv1, y_cv2, y_getF, y_getJ, y_iald, y_iast, y_last, xFT, xbool0, xbool1, Nat.reduceAdd, Nat.zero_add, xgl_0, xgl_s, xgl_n, xst_0, xst_1n, xst_1i, xst_1r, xst_1l, xst_s, set_0, set_s, true_and, and_true, xres, xcat_nil, xcat_i, xcat_r, xcat_l, Nat.add_zero, xble0, xble1, xble2, xble3, xble4, xble5, xble6, xble7, xble8, f_X12_isName, name_U htB hoB, bad_L 1 htB, bad_L 3 htB, bI_t, f_X12_seek, e3, cl0, cl1, b0, b1]
    refine ⟨hB.2.2.2.2.1, fun c => ?_, fun c => k1 B _ _ (by unfold nlU; rw [if_pos c]) (kS_uS hS)⟩
    have hn : isNa (tk f n lim (tk f n lim p).2.2.1) = true := by simpa using c
    have hw := htB.2.2.2.1 (na_1 hn)
    have ha : idx (fun k => xl B 186 (9 + k)) (xl B 180 17) (vS v) = idx (vsn v) (xl B 180 17) (vS v) := idx_congr _ fun j hj => (e6 _).trans (n3 j hj)
    have hb : idx (fun k => xl B 186 (13 + k)) (xl B 180 17) (vK v) = idx (vkn v) (xl B 180 17) (vK v) := idx_congr _ fun j hj => (e6 _).trans (n4 j hj)
    refine ⟨vpl (by decide) (by decide), 9, vS v, rfl, rfl, by omega, ?_⟩
    rw [ha, ite_ge (by have := idx_le (vsn v) (xl B 180 17) (vS v); omega)]
    have hle1 := idx_le (vsn v) (xl B 180 17) (vS v)
    have hle2 := idx_le (vkn v) (xl B 180 17) (vK v)
    have hfl : idx (vsn v) (xl B 180 17) (vS v) < vS v ∨ idx (vkn v) (xl B 180 17) (vK v) < vK v → P (some (.int 0)) (fltU B 3 (tk f n lim (tk f n lim p).2.2.1).2.1) := fun q => by
      refine k1 B _ _ ?_ (kS_uS hS)
      unfold nlU
      rw [if_neg c, if_pos]
      rw [hw] at q
      exact fun q2 => by have := (fnd_no n1 n2).mp q2; omega
    refine ⟨fun q => hfl (Or.inl q), fun q => ⟨vpl (by decide) (by decide), 13, vK v, rfl, rfl, by omega, ?_⟩⟩
    rw [hb, ite_lt (by omega)]
    refine ⟨fun q2 => ?_, fun q2 => hfl (Or.inr (by omega))⟩
    have hno : vfind v (lN (tk f n lim (tk f n lim p).2.2.1).2.2.2) = -1 := (fnd_no n1 n2).mpr (by rw [← hw]; exact ⟨q, by omega⟩)
    rw [show (13 : Int32) = nI 13 from rfl, nI_add, n_cl (n := 13 + vK v) (by omega), xi_sl, e3, b1, nI_1, hw]
    have hHB : isH B v := isH_off hH0 e3 e6
    have hH2 := isH_kind (w := lN (tk f n lim (tk f n lim p).2.2.1).2.2.2) hHB (by omega) hno
    refine ⟨vpl (by decide) (by decide), (n_in (by omega) (by omega)).mpr (by omega), vpl (by decide) (by decide), vpl (by decide) (by decide), next_U (uT_cell (uT_sl hB) (by omega)) (by rw [na_1 hn]; decide) fun D hS2 hD => ?_⟩
    simp only [k_X12_readName_0, k_X12_readName_63, f_X12_isName, f_X12_seek, w_R, w_RI, w_RII, x_aload, x_dup2, x_iadd, x_icmp_ne, x_if_ge, x_if_lt, x_if_ne, x_iload, x_push, x_zret, y_cv0, y_cv1, y_cv2, y_getF, y_getJ, y_iald, y_iast, y_last, xFT, xbool0, xbool1, Nat.reduceAdd, Nat.zero_add, xgl_0, xgl_s, xgl_n, xst_0, xst_1n, xst_1i, xst_1r, xst_1l, xst_s, set_0, set_s, true_and, and_true, xres, xcat_nil, xcat_i, xcat_r, xcat_l, Nat.add_zero, xble0, xble1, xble2, xble3, xble4, xble5, xble6, xble7, xble8]
    refine k2 D _ _ (by unfold nlU; rw [if_neg c, if_neg (fun q => q hno)]; rfl) (kS_tr (kS_uS hS) (kS_tr (kS_si (kS_sl kS_rf (by omega)) (by omega)) (kS_uS hS2))) ?_ (isH_off hH2 (fun k => xoff_i hS2.1 (by omega)) (fun k => xoff_l hS2.1 (by omega))) hD
    rw [hS2.2.1 15 (by omega) (by omega) (by omega) (by omega) (by omega), si_ne (by omega), xi_sl, hS.2.1 15 (by omega) (by omega) (by omega) (by omega) (by omega)]
  · simp only [if_true] at hf hK ⊢
    simp only [k_X12_readName_0, k_X12_readName_63, f_X12_isName, f_X12_seek, w_R, w_RI, w_RII, x_aload, x_dup2, x_iadd, x_icmp_ne, x_if_ge, x_if_lt, x_if_ne, x_iload, x_push, x_zret, y_cv0, y_cv1, y_cv2, y_getF, y_getJ, y_iald, y_iast, y_last, xFT, xbool0, xbool1, Nat.reduceAdd, Nat.zero_add, xgl_0, xgl_s, xgl_n, xst_0, xst_1n, xst_1i, xst_1r, xst_1l, xst_s, set_0, set_s, true_and, and_true, xres, xcat_nil, xcat_i, xcat_r, xcat_l, Nat.add_zero, xble0, xble1, xble2, xble3, xble4, xble5, xble6, xble7, xble8, bad_L 4 ht, cl1, cl0, b1, b0, c_eq 4 (c := vS v) (by omega) (by decide), ne_eq]
    refine ⟨vpl (by decide) (by decide), fun a => next_U hu h4 fun B hS hB => ?_, fun a => hf a⟩
    obtain ⟨k1, k2⟩ := hK a
    have htB := hB.2.2.2.2.2
    have hoB := uT_ok hB
    have e3 : ∀ j, xi B 183 j = xi A 183 j := fun j => xoff_i hS.1 (by omega)
    have e6 : ∀ j, xl B 186 j = xl A 186 j := fun j => xoff_l hS.1 (by omega)
    simp only [k_X12_readName_0, k_X12_readName_63, f_X12_isName, f_X12_seek, w_R, w_RI, w_RII, x_aload, x_dup2, x_iadd, x_icmp_ne, x_if_ge, x_if_lt, x_if_ne, x_iload, x_push, x_zret, y_cv0, y_cv1, y_cv2, y_getF, y_getJ, y_iald, y_iast, y_last, xFT, xbool0, xbool1, Nat.reduceAdd, Nat.zero_add, xgl_0, xgl_s, xgl_n, xst_0, xst_1n, xst_1i, xst_1r, xst_1l, xst_s, set_0, set_s, true_and, and_true, xres, xcat_nil, xcat_i, xcat_r, xcat_l, Nat.add_zero, xble0, xble1, xble2, xble3, xble4, xble5, xble6, xble7, xble8, f_X12_isName, name_U htB hoB, bad_L 1 htB, bad_L 3 htB, bI_t, f_X12_seek, e3, cl0, cl1, b0, b1]
    refine ⟨hB.2.2.2.2.1, fun c => ?_, fun c => k1 B _ _ (by unfold nlU; rw [if_pos c]) (kS_uS hS)⟩
    have hn : isNa (tk f n lim (tk f n lim p).2.2.1) = true := by simpa using c
    have hw := htB.2.2.2.1 (na_1 hn)
    have ha : idx (fun k => xl B 186 (9 + k)) (xl B 180 17) (vS v) = idx (vsn v) (xl B 180 17) (vS v) := idx_congr _ fun j hj => (e6 _).trans (n3 j hj)
    have hb : idx (fun k => xl B 186 (13 + k)) (xl B 180 17) (vK v) = idx (vkn v) (xl B 180 17) (vK v) := idx_congr _ fun j hj => (e6 _).trans (n4 j hj)
    refine ⟨vpl (by decide) (by decide), 9, vS v, rfl, rfl, by omega, ?_⟩
    rw [ha, ite_ge (by have := idx_le (vsn v) (xl B 180 17) (vS v); omega)]
    have hle1 := idx_le (vsn v) (xl B 180 17) (vS v)
    have hle2 := idx_le (vkn v) (xl B 180 17) (vK v)
    have hfl : idx (vsn v) (xl B 180 17) (vS v) < vS v ∨ idx (vkn v) (xl B 180 17) (vK v) < vK v → P (some (.int 0)) (fltU B 3 (tk f n lim (tk f n lim p).2.2.1).2.1) := fun q => by
      refine k1 B _ _ ?_ (kS_uS hS)
      unfold nlU
      rw [if_neg c, if_pos]
      rw [hw] at q
      exact fun q2 => by have := (fnd_no n1 n2).mp q2; omega
    refine ⟨fun q => hfl (Or.inl q), fun q => ⟨vpl (by decide) (by decide), 13, vK v, rfl, rfl, by omega, ?_⟩⟩
    rw [hb, ite_lt (by omega)]
    refine ⟨fun q2 => ?_, fun q2 => hfl (Or.inr (by omega))⟩
    have hno : vfind v (lN (tk f n lim (tk f n lim p).2.2.1).2.2.2) = -1 := (fnd_no n1 n2).mpr (by rw [← hw]; exact ⟨q, by omega⟩)
    rw [show (9 : Int32) = nI 9 from rfl, nI_add, n_cl (n := 9 + vS v) (by omega), xi_sl, e3, b0, nI_1, hw]
    have hHB : isH B v := isH_off hH0 e3 e6
    have hH2 := isH_sign (w := lN (tk f n lim (tk f n lim p).2.2.1).2.2.2) hHB (by omega) hno
    refine ⟨vpl (by decide) (by decide), (n_in (by omega) (by omega)).mpr (by omega), vpl (by decide) (by decide), vpl (by decide) (by decide), next_U (uT_cell (uT_sl hB) (by omega)) (by rw [na_1 hn]; decide) fun D hS2 hD => ?_⟩
    simp only [k_X12_readName_0, k_X12_readName_63, f_X12_isName, f_X12_seek, w_R, w_RI, w_RII, x_aload, x_dup2, x_iadd, x_icmp_ne, x_if_ge, x_if_lt, x_if_ne, x_iload, x_push, x_zret, y_cv0, y_cv1, y_cv2, y_getF, y_getJ, y_iald, y_iast, y_last, xFT, xbool0, xbool1, Nat.reduceAdd, Nat.zero_add, xgl_0, xgl_s, xgl_n, xst_0, xst_1n, xst_1i, xst_1r, xst_1l, xst_s, set_0, set_s, true_and, and_true, xres, xcat_nil, xcat_i, xcat_r, xcat_l, Nat.add_zero, xble0, xble1, xble2, xble3, xble4, xble5, xble6, xble7, xble8]
    refine k2 D _ _ (by unfold nlU; rw [if_neg c, if_neg (fun q => q hno)]; rfl) (kS_tr (kS_uS hS) (kS_tr (kS_si (kS_sl kS_rf (by omega)) (by omega)) (kS_uS hS2))) ?_ (isH_off hH2 (fun k => xoff_i hS2.1 (by omega)) (fun k => xoff_l hS2.1 (by omega))) hD
    rw [hS2.2.1 15 (by omega) (by omega) (by omega) (by omega) (by omega), si_ne (by omega), xi_sl, hS.2.1 15 (by omega) (by omega) (by omega) (by omega) (by omega)]

