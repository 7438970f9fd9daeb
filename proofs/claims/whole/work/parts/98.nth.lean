/-! ===== the n-th of a row; the class's counts of steps ===== -/
theorem d_X7_nthBit_0 : decode cX7_nthBit 0 = .ok (.lload_n 0, 1) := by decide +kernel
theorem d_X7_nthBit_1 : decode cX7_nthBit 1 = .ok (.lstore_n 3, 1) := by decide +kernel
theorem d_X7_nthBit_2 : decode cX7_nthBit 2 = .ok (.iconst 0, 1) := by decide +kernel
theorem d_X7_nthBit_3 : decode cX7_nthBit 3 = .ok (.istore 5, 2) := by decide +kernel
theorem d_X7_nthBit_5 : decode cX7_nthBit 5 = .ok (.iload 5, 2) := by decide +kernel
theorem d_X7_nthBit_7 : decode cX7_nthBit 7 = .ok (.iload_n 2, 1) := by decide +kernel
theorem d_X7_nthBit_8 : decode cX7_nthBit 8 = .ok (.if_icmp .ge 22, 3) := by decide +kernel
theorem d_X7_nthBit_11 : decode cX7_nthBit 11 = .ok (.iload 5, 2) := by decide +kernel
theorem d_X7_nthBit_13 : decode cX7_nthBit 13 = .ok (.bipush 64, 2) := by decide +kernel
theorem d_X7_nthBit_15 : decode cX7_nthBit 15 = .ok (.if_icmp .ge 15, 3) := by decide +kernel
theorem d_X7_nthBit_18 : decode cX7_nthBit 18 = .ok (.lload_n 3, 1) := by decide +kernel
theorem d_X7_nthBit_19 : decode cX7_nthBit 19 = .ok (.lload_n 3, 1) := by decide +kernel
theorem d_X7_nthBit_20 : decode cX7_nthBit 20 = .ok (.lconst 1, 1) := by decide +kernel
theorem d_X7_nthBit_21 : decode cX7_nthBit 21 = .ok (.lsub, 1) := by decide +kernel
theorem d_X7_nthBit_22 : decode cX7_nthBit 22 = .ok (.land, 1) := by decide +kernel
theorem d_X7_nthBit_23 : decode cX7_nthBit 23 = .ok (.lstore_n 3, 1) := by decide +kernel
theorem d_X7_nthBit_24 : decode cX7_nthBit 24 = .ok (.iinc 5 1, 3) := by decide +kernel
theorem d_X7_nthBit_27 : decode cX7_nthBit 27 = .ok (.goto (-22), 3) := by decide +kernel
theorem d_X7_nthBit_30 : decode cX7_nthBit 30 = .ok (.lload_n 3, 1) := by decide +kernel
theorem d_X7_nthBit_31 : decode cX7_nthBit 31 = .ok (.lload_n 3, 1) := by decide +kernel
theorem d_X7_nthBit_32 : decode cX7_nthBit 32 = .ok (.lneg, 1) := by decide +kernel
theorem d_X7_nthBit_33 : decode cX7_nthBit 33 = .ok (.land, 1) := by decide +kernel
theorem d_X7_nthBit_34 : decode cX7_nthBit 34 = .ok (.lconst 1, 1) := by decide +kernel
theorem d_X7_nthBit_35 : decode cX7_nthBit 35 = .ok (.lsub, 1) := by decide +kernel
theorem d_X7_nthBit_36 : decode cX7_nthBit 36 = .ok (.invokestatic 140, 3) := by decide +kernel
theorem d_X7_nthBit_39 : decode cX7_nthBit 39 = .ok (.ireturn, 1) := by decide +kernel
def k_X7_nthBit_0 (P : xP) (C5 : xK) : xK := x_lload 0 (x_lstore 3 (x_push (.int 0) (x_istore 5 (C5))))
set_option maxRecDepth 20000 in
theorem t_X7_nthBit_0 {p : Program} {l : Launch} {e : Env} {s : State} {m : MethodId} {args : Array Value} {below : List Frame} {meth : Method} {c : Code} {g : xG} (X : xX p s m args c meth cX7_nthBit RX7 6 g) (hr : meth.sig.returnType = (some .int)) {P : xP} {C5 : xK} (h5 : xAt p l e { frames := 1, cells := 0, slots := 0, locals := 21 } s m args below meth c g 6 xFT xN 0 0 (MQ below (xQc g xFT xN P) args s 0 0 (xFr g)) C5 5) : xAt p l e { frames := 1, cells := 0, slots := 0, locals := 21 } s m args below meth c g 6 xFT xN 0 0 (MQ below (xQc g xFT xN P) args s 0 0 (xFr g)) (k_X7_nthBit_0 P C5) 0 := by
  unfold k_X7_nthBit_0
  refine r_lload_n (pc := 0) X d_X7_nthBit_0 fn0 ?_
  refine r_lstore_n (pc := 1) X d_X7_nthBit_1 fn3 (by decide +kernel) ?_
  refine r_iconst (pc := 2) X d_X7_nthBit_2 (by decide +kernel) ?_
  refine r_istore (pc := 3) X d_X7_nthBit_3 (by decide +kernel) ?_
  exact h5
def k_X7_nthBit_30 (P : xP) : xK := x_lload 3 (x_lload 3 (x_lneg (x_land (x_push (.long 1) (x_lsub (x_cs1 (w_J f_J13_bitCount_95d88) (x_iret P)))))))
set_option maxRecDepth 20000 in
theorem t_X7_nthBit_30 {p : Program} {l : Launch} {e : Env} {s : State} {m : MethodId} {args : Array Value} {below : List Frame} {meth : Method} {c : Code} {g : xG} (X : xX p s m args c meth cX7_nthBit RX7 6 g) (hr : meth.sig.returnType = (some .int)) {P : xP} : xAt p l e { frames := 1, cells := 0, slots := 0, locals := 21 } s m args below meth c g 6 xFT xN 0 0 (MQ below (xQc g xFT xN P) args s 0 0 (xFr g)) (k_X7_nthBit_30 P) 30 := by
  unfold k_X7_nthBit_30
  refine r_lload_n (pc := 30) X d_X7_nthBit_30 fn3 ?_
  refine r_lload_n (pc := 31) X d_X7_nthBit_31 fn3 ?_
  refine r_lneg (pc := 32) X d_X7_nthBit_32 ?_
  refine r_land (pc := 33) X d_X7_nthBit_33 ?_
  refine r_lconst (pc := 34) X d_X7_nthBit_34 (by decide +kernel) ?_
  refine r_lsub (pc := 35) X d_X7_nthBit_35 ?_
  refine r_cs1 (pc := 36) X (con_J13_bitCount_95d88 l) sf_J13_bitCount_95d88 ml_RX7_140 (by decide +kernel) (by decide +kernel) d_X7_nthBit_36 ?_
  exact r_iret (pc := 39) X hr d_X7_nthBit_39
def k_X7_nthBit_5 (P : xP) (C5 : xK) : xK := x_iload 5 (x_iload 2 (x_icmp_ge ((k_X7_nthBit_30 P)) (x_iload 5 (x_push (.int 64) (x_icmp_ge ((k_X7_nthBit_30 P)) (x_lload 3 (x_lload 3 (x_push (.long 1) (x_lsub (x_land (x_lstore 3 (x_iinc 5 1 (C5)))))))))))))
set_option maxRecDepth 20000 in
theorem t_X7_nthBit_5 {p : Program} {l : Launch} {e : Env} {s : State} {m : MethodId} {args : Array Value} {below : List Frame} {meth : Method} {c : Code} {g : xG} (X : xX p s m args c meth cX7_nthBit RX7 6 g) (hr : meth.sig.returnType = (some .int)) {P : xP} {C5 : xK} (h5 : xAt p l e { frames := 1, cells := 0, slots := 0, locals := 21 } s m args below meth c g 6 xFT xN 0 0 (MQ below (xQc g xFT xN P) args s 0 0 (xFr g)) C5 5) : xAt p l e { frames := 1, cells := 0, slots := 0, locals := 21 } s m args below meth c g 6 xFT xN 0 0 (MQ below (xQc g xFT xN P) args s 0 0 (xFr g)) (k_X7_nthBit_5 P C5) 5 := by
  unfold k_X7_nthBit_5
  refine r_iload (pc := 5) X d_X7_nthBit_5 ?_
  refine r_iload_n (pc := 7) X d_X7_nthBit_7 fn2 ?_
  refine r_icmp_ge (pc := 8) (tgt := 30) X d_X7_nthBit_8 (by decide +kernel) ?_ ?_
  · exact t_X7_nthBit_30 X hr
  · refine r_iload (pc := 11) X d_X7_nthBit_11 ?_
    refine r_bipush (pc := 13) X d_X7_nthBit_13 (by decide +kernel) ?_
    refine r_icmp_ge (pc := 15) (tgt := 30) X d_X7_nthBit_15 (by decide +kernel) ?_ ?_
    · exact t_X7_nthBit_30 X hr
    · refine r_lload_n (pc := 18) X d_X7_nthBit_18 fn3 ?_
      refine r_lload_n (pc := 19) X d_X7_nthBit_19 fn3 ?_
      refine r_lconst (pc := 20) X d_X7_nthBit_20 (by decide +kernel) ?_
      refine r_lsub (pc := 21) X d_X7_nthBit_21 ?_
      refine r_land (pc := 22) X d_X7_nthBit_22 ?_
      refine r_lstore_n (pc := 23) X d_X7_nthBit_23 fn3 (by decide +kernel) ?_
      refine r_iinc (pc := 24) X d_X7_nthBit_24 (by decide +kernel) (by decide +kernel) ?_
      refine r_goto (pc := 27) (tgt := 5) X d_X7_nthBit_27 (by decide +kernel) ?_
      exact h5
set_option maxRecDepth 20000 in
theorem m_X7_nthBit {l : Launch} {f : Int64 → Int32 → xH → xP → Prop}  {I5 : Int64 → Int32 → xH → xP → xM → xK}
    (v0 : ∀ (a0 : Int64) (a1 : Int32) (A : xH) (P : xP), f a0 a1 A P → k_X7_nthBit_0 P (xE (I5 a0 a1 A P)) [some (.long a0), none, some (.int a1), none, none, none] [] A)
    (v5 : ∀ (a0 : Int64) (a1 : Int32) (A : xH) (P : xP), f a0 a1 A P → ∀ (μ : xM) (L : xL) (st : List Value) (B : xH), I5 a0 a1 A P μ L st B → k_X7_nthBit_5 P (xB (I5 a0 a1 A P) μ) L st B) : xCon l yX7_nthBit cX7_nthBit 6 (some .int) 1 21 xN xN 0 xFT xFT (w_JI f) := by
  refine xc_JI (plainFor_of_name pn_RX7) (by decide +kernel) (fun p e s m args below meth c g a0 a1 A P h X hr _ => ?_)
  have h5 := x_loop1 (p := p) (l := l) (e := e) (R := { frames := 1, cells := 0, slots := 0, locals := 21 }) (s := s) (m := m) (args := args) (below := below) (meth := meth) (c := c) (g := g) (nL := 6) (F := xFT) (n := xN) (cells := 0) (slots := 0) (Q := MQ below (xQc g xFT xN P) args s 0 0 (xFr g)) (I := I5 a0 a1 A P) (pc1 := 5) (fun μ i5 => xAt_mono (t_X7_nthBit_5 (P := P) X hr i5) (v5 a0 a1 A P h μ))
  exact ⟨_, v0 a0 a1 A P h, t_X7_nthBit_0 X hr h5⟩
theorem cb_mono (f : Nat → Bool) {a b : Nat} (h : a ≤ b) : cb f a ≤ cb f b := by
  obtain ⟨d, rfl⟩ : ∃ d, b = a + d := ⟨b - a, by omega⟩
  rw [cb_add]; omega
theorem cb_s (f : Nat → Bool) (n : Nat) : cb f (n + 1) = cb f n + (f n).toNat := rfl
/-- the k-th there is -/
theorem cb_sel {f : Nat → Bool} {k : Nat} : ∀ {n}, k < cb f n → ∃ x, x < n ∧ f x = true ∧ cb f x = k
  | 0, h => absurd h (Nat.not_lt_zero k)
  | n + 1, h => by
    rw [cb_s] at h
    by_cases q : k < cb f n
    · obtain ⟨x, h1, h2, h3⟩ := cb_sel q
      exact ⟨x, by omega, h2, h3⟩
    · cases e : f n
      · rw [e] at h; simp at h; omega
      · rw [e] at h
        simp only [Bool.toNat_true] at h
        exact ⟨n, by omega, e, by omega⟩
theorem cb_uni {f : Nat → Bool} {x y : Nat} (hx : f x = true) (hy : f y = true) (h : cb f x = cb f y) : x = y := by
  rcases Nat.lt_trichotomy x y with w | w | w
  · have := cb_mono f (show x + 1 ≤ y by omega)
    rw [cb_s, hx] at this
    simp only [Bool.toNat_true] at this
    omega
  · exact w
  · have := cb_mono f (show y + 1 ≤ x by omega)
    rw [cb_s, hy] at this
    simp only [Bool.toNat_true] at this
    omega
def f_X7_nthBit (x : Int64) (y : Int32) (A : xH) (P : xP) : Prop := ∃ n, y = nI n ∧ n < pc x ∧ ∀ j, j < 64 → tl x j = true → cb (tl x) j = n → P (some (.int (nI j))) A
def nbI (x : Int64) (A : xH) (P : xP) : xM → xK := fun μ L st B => ∃ n t rest, n < pc x ∧ (∀ j, j < 64 → tl x j = true → cb (tl x) j = n → P (some (.int (nI j))) A) ∧ t ≤ n ∧ (∀ j, j < 64 → (tl rest j = true ↔ tl x j = true ∧ t ≤ cb (tl x) j)) ∧ B = A ∧ st = [] ∧ L = [some (.long x), none, some (.int (nI n)), some (.long rest), none, some (.int (nI t))] ∧ μ = (n - t, 0, 0)
theorem nb_low {x rest : Int64} {t : Nat} (ht : t < pc x) (h : ∀ j, j < 64 → (tl rest j = true ↔ tl x j = true ∧ t ≤ cb (tl x) j)) : ∃ l, lowb rest l ∧ tl x l = true ∧ cb (tl x) l = t := by
  obtain ⟨j, j1, j2, j3⟩ := cb_sel ht
  have hj : tl rest j = true := (h j j1).mpr ⟨j2, by omega⟩
  have hne : rest ≠ 0 := fun e => by rw [e, tl_0] at hj; cases hj
  obtain ⟨l, hl⟩ := lowb_of hne
  obtain ⟨a, b⟩ := (h l hl.1).mp hl.2.1
  refine ⟨l, hl, a, ?_⟩
  have hlj : l ≤ j := by
    apply Classical.byContradiction
    intro w
    have := hl.2.2 j (by omega)
    rw [hj] at this; cases this
  have := cb_mono (tl x) hlj
  omega
theorem bitCount_A' {A : xH} {P : xP} {x : Int64} {n : Nat} (hn : pc x = n) (h : P (some (.int (nI n))) A) : f_J13_bitCount_95d88 x A P := by subst hn; exact bitCount_A h
set_option maxRecDepth 20000 in
theorem con_X7_nthBit (l : Launch) : xCon l yX7_nthBit cX7_nthBit 6 (some .int) 1 21 xN xN 0 xFT xFT (w_JI f_X7_nthBit) := by
  refine m_X7_nthBit (I5 := fun x y A P => nbI x A P) ?_ ?_
  · rintro x y A P ⟨n, rfl, hn, hP⟩
    simp (disch := omega) only [k_X7_nthBit_0, k_X7_nthBit_5, k_X7_nthBit_30, f_J13_bitCount_95d88, w_J, x_cs1, x_icmp_ge, x_iinc, x_iload, x_iret, x_istore, x_land, x_lload, x_lneg, x_lstore, x_lsub, x_push, xFT, xbool0, xbool1, Nat.reduceAdd, Nat.zero_add, xgl_0, xgl_s, xgl_n, xst_0, xst_1n, xst_1i, xst_1r, xst_1l, xst_s, set_0, set_s, true_and, and_true, xres, xcat_nil, xcat_i, xcat_r, xcat_l, Nat.add_zero, xble0, xble1, xble2, xble3, xble4, xble5, xble6, xble7, xble8, pk_mul, nI_add, nI_1, nI_leI, nI_ltI, nI_eq, n_in, n_cl, z_eq, z_lt, z_le, z_gt, z_ge, z_qe, o_eq, o_lt, o_le, o_gt, o_ge, vp0, vp1, cl0, cl1, n_sub, n_sub1, n_pm1, n_a0, n_0a, ofn, lN0, Nat.reduceLT, Nat.reduceLeDiff, Nat.reduceMul, Nat.reduceSub, Nat.reduceEqDiff, ne_eq, true_implies, false_implies, not_true_eq_false, not_false_eq_true, and_self, and_true, true_and, and_false, false_and, implies_true, if_true, if_false, i00, i10, i01, i11, ob_0, ob_1, tn_2, ln_2, ob_3, tn_4, ln_4, ob_5, tn_6, ln_6, tn_7, ln_7, ob_8, tn_9, ln_9, tn_10, ln_10, tn_11, ln_11, tn_12, ln_12, tn_13, ln_13, tn_14, ln_14, tn_15, ln_15, tn_16, ln_16, tn_17, ln_17, ob_18, tn_19, ln_19, tn_20, ln_20, tn_21, ln_21, tn_22, ln_22, tn_23, ln_23, tn_24, ln_24, tn_25, ln_25, tn_26, ln_26, tn_27, ln_27, ob_28, tn_29, ln_29, tn_30, ln_30, ob_31, tn_32, ln_32, tn_33, ln_33, ob_34, ob_35, tn_36, ln_36, tn_37, ln_37, tn_38, ln_38, ob_39, tn_40, ln_40, tn_41, ln_41, tn_42, ln_42, tn_43, ln_43, tn_44, ln_44, tn_45, ln_45, tn_46, ln_46, tn_47, ln_47, tn_48, ln_48, tn_49, ln_49, tn_50, ln_50, tn_51, ln_51, ob_52, tn_53, ln_53, tn_54, ln_54, tn_55, ln_55, tn_56, ln_56, ob_57, tn_58, ln_58, tn_59, ln_59, tn_60, ln_60, tn_61, ln_61, tn_62, ln_62, tn_63, ln_63, tn_64, ln_64, tn_65, ln_65, ob_66, tn_67, ln_67, tn_68, ln_68, tn_69, ln_69, tn_70, ln_70, tn_71, ln_71, tn_72, ln_72, tn_73, ln_73, ob_74, tn_75, ln_75, tn_76, ln_76, tn_77, ln_77, tn_78, ln_78, tn_79, ln_79, tn_80, ln_80, tn_81, ln_81, tn_82, ln_82, tn_83, ln_83, ob_84, tn_85, ln_85, tn_86, ln_86, tn_87, ln_87, tn_88, ln_88, tn_89, ln_89, tn_90, ln_90, tn_91, ln_91, tn_92, ln_92, tn_93, ln_93, ob_94, tn_95, ln_95, tn_96, ln_96, tn_97, ln_97, tn_98, ln_98, tn_99, ln_99, tn_100, ln_100, tn_101, ln_101, tn_102, ln_102, tn_103, ln_103, ob_104, tn_105, ln_105, tn_106, ln_106, tn_107, ln_107, tn_108, ln_108, tn_109, ln_109, tn_110, ln_110, tn_111, ln_111, tn_112, ln_112, tn_113, ln_113, ob_114, tn_115, ln_115, tn_116, ln_116, tn_117, ln_117, tn_118, ln_118, tn_119, ln_119, tn_120, ln_120, tn_121, ln_121, tn_122, ln_122, tn_123, ln_123, ob_124, tn_125, ln_125, tn_126, ln_126, tn_127, ln_127, tn_128, ln_128, tn_129, ln_129, tn_130, ln_130, tn_131, ln_131, tn_132, ln_132, tn_133, ln_133, ob_134, tn_135, ln_135, tn_136, ln_136, tn_137, ln_137, tn_138, ln_138, tn_139, ln_139, tn_140, ln_140, tn_141, ln_141, tn_142, ln_142, tn_143, ln_143, ob_144, tn_145, ln_145, tn_146, ln_146, tn_147, ln_147, tn_148, ln_148, tn_149, ln_149, tn_150, ln_150, tn_151, ln_151, tn_152, ln_152, tn_153, ln_153, ob_154, tn_155, ln_155, tn_156, ln_156, tn_157, ln_157, tn_158, ln_158, tn_159, ln_159, tn_160, ln_160, tn_161, ln_161, tn_162, ln_162, tn_163, ln_163, ob_164, tn_165, ln_165, tn_166, ln_166, ob_167, tn_168, ln_168, tn_169, ln_169, tn_170, ln_170, tn_171, ln_171, tn_172, ln_172, tn_173, ln_173, tn_174, ln_174, tn_175, ln_175, tn_176, ln_176, ob_177, tn_178, ln_178, tn_179, ln_179, ob_180, tn_181, ln_181, tn_182, ln_182, tn_183, ln_183, tn_184, ln_184, tn_185, ln_185, tn_186, ln_186, tn_187, ln_187, tn_188, ln_188, tn_189, ln_189, tn_190, ln_190, tn_191, ln_191, tn_192, ln_192, tn_193, ln_193, tn_194, ln_194, tn_195, ln_195, tn_196, ln_196, tn_197, ln_197, tn_198, ln_198, tn_199, ln_199, tn_200, ln_200, tn_201, ln_201, tn_202, ln_202, tn_203, ln_203, tn_204, ln_204, tn_205, ln_205, tn_206, ln_206, tn_207, ln_207, tn_208, ln_208, tn_209, ln_209, tn_210, ln_210, tn_211, ln_211, tn_212, ln_212, tn_213, ln_213, tn_214, ln_214, tn_215, ln_215, tn_216, ln_216, tn_217, ln_217, tn_218, ln_218, tn_219, ln_219, tn_220, ln_220, tn_221, ln_221, tn_222, ln_222, tn_223, ln_223, tn_224, ln_224, tn_225, ln_225, tn_226, ln_226, tn_227, ln_227, tn_228, ln_228, tn_229, ln_229, tn_230, ln_230, lx2, lx3, lx4, lx5, lx6, lx7, lx8, lx9, lx10, lx14, lx15, lx16, lx18, lx20, lx24, lx25, lx27, lx32, lx36, lx40, lx41, lx42, lx43, lx45, lx48, lx52, lx54, lx56, lx57, lx58, lx60, lx61, lx62, lx63, lx64, lx66, lx69, lx73, lx80, lx81, lx84, lx85, lx87, lx94, lx96, lx97, lx120, lx128, lx135, lx160, lx162, lx163, lx165, lx200, lx232, lx242, lx243, lx255, lx256, lx320, lx325, lx400, lx405, lx464, lx512, lx600, lx640, lx752, lx900, lx940, lx1000, lx1024, lx1764, lx3360, lx3840, lx5000, lx6400, lx9050, lx9998, lx9999, lx10000, lx25600, lx76800, lx99999]
    exact xE0 (n - 0, 0, 0) ⟨n, 0, x, hn, hP, Nat.zero_le _, fun j _ => ⟨fun w => ⟨w, Nat.zero_le _⟩, fun w => w.1⟩, rfl, rfl, rfl, rfl⟩
  · rintro x y A P - μ L st B ⟨n, t, rest, hn, hP, ht, hb, rfl, rfl, rfl, rfl⟩
    have h64 := pc_le x
    obtain ⟨l, hl, l1, l2⟩ := nb_low (by omega) hb
    simp (disch := omega) only [k_X7_nthBit_0, k_X7_nthBit_5, k_X7_nthBit_30, w_J, x_cs1, x_icmp_ge, x_iinc, x_iload, x_iret, x_istore, x_land, x_lload, x_lneg, x_lstore, x_lsub, x_push, xFT, xbool0, xbool1, Nat.reduceAdd, Nat.zero_add, xgl_0, xgl_s, xgl_n, xst_0, xst_1n, xst_1i, xst_1r, xst_1l, xst_s, set_0, set_s, true_and, and_true, xres, xcat_nil, xcat_i, xcat_r, xcat_l, Nat.add_zero, xble0, xble1, xble2, xble3, xble4, xble5, xble6, xble7, xble8, pk_mul, nI_add, nI_1, nI_leI, nI_ltI, nI_eq, n_in, n_cl, z_eq, z_lt, z_le, z_gt, z_ge, z_qe, o_eq, o_lt, o_le, o_gt, o_ge, vp0, vp1, cl0, cl1, n_sub, n_sub1, n_pm1, n_a0, n_0a, ofn, lN0, Nat.reduceLT, Nat.reduceLeDiff, Nat.reduceMul, Nat.reduceSub, Nat.reduceEqDiff, ne_eq, true_implies, false_implies, not_true_eq_false, not_false_eq_true, and_self, and_true, true_and, and_false, false_and, implies_true, if_true, if_false, i00, i10, i01, i11, ob_0, ob_1, tn_2, ln_2, ob_3, tn_4, ln_4, ob_5, tn_6, ln_6, tn_7, ln_7, ob_8, tn_9, ln_9, tn_10, ln_10, tn_11, ln_11, tn_12, ln_12, tn_13, ln_13, tn_14, ln_14, tn_15, ln_15, tn_16, ln_16, tn_17, ln_17, ob_18, tn_19, ln_19, tn_20, ln_20, tn_21, ln_21, tn_22, ln_22, tn_23, ln_23, tn_24, ln_24, tn_25, ln_25, tn_26, ln_26, tn_27, ln_27, ob_28, tn_29, ln_29, tn_30, ln_30, ob_31, tn_32, ln_32, tn_33, ln_33, ob_34, ob_35, tn_36, ln_36, tn_37, ln_37, tn_38, ln_38, ob_39, tn_40, ln_40, tn_41, ln_41, tn_42, ln_42, tn_43, ln_43, tn_44, ln_44, tn_45, ln_45, tn_46, ln_46, tn_47, ln_47, tn_48, ln_48, tn_49, ln_49, tn_50, ln_50, tn_51, ln_51, ob_52, tn_53, ln_53, tn_54, ln_54, tn_55, ln_55, tn_56, ln_56, ob_57, tn_58, ln_58, tn_59, ln_59, tn_60, ln_60, tn_61, ln_61, tn_62, ln_62, tn_63, ln_63, tn_64, ln_64, tn_65, ln_65, ob_66, tn_67, ln_67, tn_68, ln_68, tn_69, ln_69, tn_70, ln_70, tn_71, ln_71, tn_72, ln_72, tn_73, ln_73, ob_74, tn_75, ln_75, tn_76, ln_76, tn_77, ln_77, tn_78, ln_78, tn_79, ln_79, tn_80, ln_80, tn_81, ln_81, tn_82, ln_82, tn_83, ln_83, ob_84, tn_85, ln_85, tn_86, ln_86, tn_87, ln_87, tn_88, ln_88, tn_89, ln_89, tn_90, ln_90, tn_91, ln_91, tn_92, ln_92, tn_93, ln_93, ob_94, tn_95, ln_95, tn_96, ln_96, tn_97, ln_97, tn_98, ln_98, tn_99, ln_99, tn_100, ln_100, tn_101, ln_101, tn_102, ln_102, tn_103, ln_103, ob_104, tn_105, ln_105, tn_106, ln_106, tn_107, ln_107, tn_108, ln_108, tn_109, ln_109, tn_110, ln_110, tn_111, ln_111, tn_112, ln_112, tn_113, ln_113, ob_114, tn_115, ln_115, tn_116, ln_116, tn_117, ln_117, tn_118, ln_118, tn_119, ln_119, tn_120, ln_120, tn_121, ln_121, tn_122, ln_122, tn_123, ln_123, ob_124, tn_125, ln_125, tn_126, ln_126, tn_127, ln_127, tn_128, ln_128, tn_129, ln_129, tn_130, ln_130, tn_131, ln_131, tn_132, ln_132, tn_133, ln_133, ob_134, tn_135, ln_135, tn_136, ln_136, tn_137, ln_137, tn_138, ln_138, tn_139, ln_139, tn_140, ln_140, tn_141, ln_141, tn_142, ln_142, tn_143, ln_143, ob_144, tn_145, ln_145, tn_146, ln_146, tn_147, ln_147, tn_148, ln_148, tn_149, ln_149, tn_150, ln_150, tn_151, ln_151, tn_152, ln_152, tn_153, ln_153, ob_154, tn_155, ln_155, tn_156, ln_156, tn_157, ln_157, tn_158, ln_158, tn_159, ln_159, tn_160, ln_160, tn_161, ln_161, tn_162, ln_162, tn_163, ln_163, ob_164, tn_165, ln_165, tn_166, ln_166, ob_167, tn_168, ln_168, tn_169, ln_169, tn_170, ln_170, tn_171, ln_171, tn_172, ln_172, tn_173, ln_173, tn_174, ln_174, tn_175, ln_175, tn_176, ln_176, ob_177, tn_178, ln_178, tn_179, ln_179, ob_180, tn_181, ln_181, tn_182, ln_182, tn_183, ln_183, tn_184, ln_184, tn_185, ln_185, tn_186, ln_186, tn_187, ln_187, tn_188, ln_188, tn_189, ln_189, tn_190, ln_190, tn_191, ln_191, tn_192, ln_192, tn_193, ln_193, tn_194, ln_194, tn_195, ln_195, tn_196, ln_196, tn_197, ln_197, tn_198, ln_198, tn_199, ln_199, tn_200, ln_200, tn_201, ln_201, tn_202, ln_202, tn_203, ln_203, tn_204, ln_204, tn_205, ln_205, tn_206, ln_206, tn_207, ln_207, tn_208, ln_208, tn_209, ln_209, tn_210, ln_210, tn_211, ln_211, tn_212, ln_212, tn_213, ln_213, tn_214, ln_214, tn_215, ln_215, tn_216, ln_216, tn_217, ln_217, tn_218, ln_218, tn_219, ln_219, tn_220, ln_220, tn_221, ln_221, tn_222, ln_222, tn_223, ln_223, tn_224, ln_224, tn_225, ln_225, tn_226, ln_226, tn_227, ln_227, tn_228, ln_228, tn_229, ln_229, tn_230, ln_230, lx2, lx3, lx4, lx5, lx6, lx7, lx8, lx9, lx10, lx14, lx15, lx16, lx18, lx20, lx24, lx25, lx27, lx32, lx36, lx40, lx41, lx42, lx43, lx45, lx48, lx52, lx54, lx56, lx57, lx58, lx60, lx61, lx62, lx63, lx64, lx66, lx69, lx73, lx80, lx81, lx84, lx85, lx87, lx94, lx96, lx97, lx120, lx128, lx135, lx160, lx162, lx163, lx165, lx200, lx232, lx242, lx243, lx255, lx256, lx320, lx325, lx400, lx405, lx464, lx512, lx600, lx640, lx752, lx900, lx940, lx1000, lx1024, lx1764, lx3360, lx3840, lx5000, lx6400, lx9050, lx9998, lx9999, lx10000, lx25600, lx76800, lx99999]
    refine ⟨fun q => bitCount_A' (pc_below hl) (hP l hl.1 l1 (by omega)), fun q => ⟨fun q2 => absurd q2 (by omega), fun _ => ?_⟩⟩
    refine xB1 (b := n - (t + 1)) (by omega) ⟨n, t + 1, rest &&& (rest - 1), hn, hP, by omega, fun j hj => ?_, rfl, rfl, rfl, rfl⟩
    rw [tl_rest hl hj, Bool.and_eq_true, decide_eq_true_eq, hb j hj]
    constructor
    · rintro ⟨⟨a, b⟩, c⟩
      refine ⟨a, ?_⟩
      have : cb (tl x) j ≠ t := fun e => c (cb_uni a l1 (by omega))
      omega
    · rintro ⟨a, b⟩
      exact ⟨⟨a, by omega⟩, fun e => by subst e; omega⟩

