/-! ===== the class's said(), whole ===== -/
theorem cOp_n {c : Nat × Nat × Nat} (h : okC c) : ∃ m, cOp c = nI m ∧ m < 20 ∧ (m = 5 ↔ c.1 = 20) ∧ (m = 6 ↔ c.1 = 21) ∧ (m = 7 ↔ c.1 = 22) := by
  unfold okC at h
  unfold cOp
  by_cases h4 : c.1 ≤ 4
  · rw [if_pos h4]; exact ⟨c.1, rfl, by omega, by omega, by omega, by omega⟩
  · rw [if_neg h4]
    by_cases h7 : c.1 ≤ 7
    · rw [if_pos h7]; exact ⟨_, rfl, by omega, by omega, by omega, by omega⟩
    · rw [if_neg h7]; exact ⟨_, rfl, by omega, by omega, by omega, by omega⟩
def f_X8_holdsOf (q m : Nat) (x : Int32) (A : xH) (P : xP) : Prop := q = 28 ∧ m = 8 ∧ ∃ v s i, isM A 8 v ∧ qC A 28 s ∧ okQ s ∧ x = nI i ∧ 2 ≤ i ∧ i < vN v ∧ P (some (.int (bI (tvR v i s)))) A
def hoI (A : xH) (P : xP) : xM → xK := fun μ L st B => ∃ v s i t o5, isM A 8 v ∧ qC A 28 s ∧ okQ s ∧ 2 ≤ i ∧ i < vN v ∧ P (some (.int (bI (tvR v i s)))) A ∧ t ≤ s.1 ∧ B = A ∧ st = [] ∧ L = [some (.ref 28), some (.ref 8), some (.int (nI i)), some (.int (nI (encB (tvF v i s.2.2 t)))), some (.int (nI t)), o5] ∧ μ = (s.1 - t, 0, 0)
theorem len1 {l : List Bool} (h : 1 ≤ l.length) : ∃ x r, l = x :: r := by
  cases l with
  | nil => simp at h
  | cons x r => exact ⟨x, r, rfl⟩
theorem len2 {l : List Bool} (h : 2 ≤ l.length) : ∃ x y r, l = x :: y :: r := by
  match l, h with
  | [], h => simp at h
  | [_], h => simp at h
  | x :: y :: r, _ => exact ⟨x, y, r, rfl⟩
theorem pd_20 {n : Nat} {c : Nat → Nat × Nat × Nat} (h : okSq (n, c)) {t : Nat} (ht : t ≤ n) : pdC c t ≤ 20 := by
  cases t with
  | zero => exact Nat.zero_le _
  | succ k => exact (h k (by show k < n; omega)).2.2.2
set_option maxRecDepth 20000 in
theorem con_X8_holdsOf (l : Launch) : xCon l yX8_holdsOf cX8_holdsOf 6 (some .boolean) 3 66 xN xN 0 xFT xFT (w_RRI f_X8_holdsOf) := by
  refine m_X8_holdsOf (I5 := fun q m x A P => hoI A P) ?_ ?_
  · rintro q m x A P ⟨rfl, rfl, v, s, i, hM, hq, hok, rfl, h2, hi, hP⟩
    simp (disch := omega) only [k_X8_holdsOf_0, k_X8_holdsOf_5, k_X8_holdsOf_114, k_X8_holdsOf_116, k_X8_holdsOf_134, f_X8_simple, w_RIII, x_aload, x_cs4, x_getF, x_getI, x_iald, x_iand, x_icmp_ge, x_icmp_ne, x_if_eq, x_iinc, x_iload, x_ior, x_ishl, x_istore, x_iushr, x_ixor, x_push, x_zret, xFT, xbool0, xbool1, Nat.reduceAdd, Nat.zero_add, xgl_0, xgl_s, xgl_n, xst_0, xst_1n, xst_1i, xst_1r, xst_1l, xst_s, set_0, set_s, true_and, and_true, xres, xcat_nil, xcat_i, xcat_r, xcat_l, Nat.add_zero, xble0, xble1, xble2, xble3, xble4, xble5, xble6, xble7, xble8, pk_mul, nI_add, nI_1, nI_leI, nI_ltI, nI_eq, n_in, n_cl, z_eq, z_lt, z_le, z_gt, z_ge, z_qe, o_eq, o_lt, o_le, o_gt, o_ge, vp0, vp1, cl0, cl1, n_sub, n_sub1, n_pm1, n_a0, n_0a, ofn, lN0, Nat.reduceLT, Nat.reduceLeDiff, Nat.reduceMul, Nat.reduceSub, Nat.reduceEqDiff, ne_eq, true_implies, false_implies, not_true_eq_false, not_false_eq_true, and_self, and_true, true_and, and_false, false_and, implies_true, if_true, if_false, i00, i10, i01, i11, ob_0, ob_1, tn_2, ln_2, ob_3, tn_4, ln_4, ob_5, tn_6, ln_6, tn_7, ln_7, ob_8, tn_9, ln_9, tn_10, ln_10, tn_11, ln_11, tn_12, ln_12, tn_13, ln_13, tn_14, ln_14, tn_15, ln_15, tn_16, ln_16, tn_17, ln_17, ob_18, tn_19, ln_19, tn_20, ln_20, tn_21, ln_21, tn_22, ln_22, tn_23, ln_23, tn_24, ln_24, tn_25, ln_25, tn_26, ln_26, tn_27, ln_27, ob_28, tn_29, ln_29, tn_30, ln_30, ob_31, tn_32, ln_32, tn_33, ln_33, ob_34, ob_35, tn_36, ln_36, tn_37, ln_37, tn_38, ln_38, ob_39, tn_40, ln_40, tn_41, ln_41, tn_42, ln_42, tn_43, ln_43, tn_44, ln_44, tn_45, ln_45, tn_46, ln_46, tn_47, ln_47, tn_48, ln_48, tn_49, ln_49, tn_50, ln_50, tn_51, ln_51, ob_52, tn_53, ln_53, tn_54, ln_54, tn_55, ln_55, tn_56, ln_56, ob_57, tn_58, ln_58, tn_59, ln_59, tn_60, ln_60, tn_61, ln_61, tn_62, ln_62, tn_63, ln_63, tn_64, ln_64, tn_65, ln_65, ob_66, tn_67, ln_67, tn_68, ln_68, tn_69, ln_69, tn_70, ln_70, tn_71, ln_71, tn_72, ln_72, tn_73, ln_73, ob_74, tn_75, ln_75, tn_76, ln_76, tn_77, ln_77, tn_78, ln_78, tn_79, ln_79, tn_80, ln_80, tn_81, ln_81, tn_82, ln_82, tn_83, ln_83, ob_84, tn_85, ln_85, tn_86, ln_86, tn_87, ln_87, tn_88, ln_88, tn_89, ln_89, tn_90, ln_90, tn_91, ln_91, tn_92, ln_92, tn_93, ln_93, ob_94, tn_95, ln_95, tn_96, ln_96, tn_97, ln_97, tn_98, ln_98, tn_99, ln_99, tn_100, ln_100, tn_101, ln_101, tn_102, ln_102, tn_103, ln_103, ob_104, tn_105, ln_105, tn_106, ln_106, tn_107, ln_107, tn_108, ln_108, tn_109, ln_109, tn_110, ln_110, tn_111, ln_111, tn_112, ln_112, tn_113, ln_113, ob_114, tn_115, ln_115, tn_116, ln_116, tn_117, ln_117, tn_118, ln_118, tn_119, ln_119, tn_120, ln_120, tn_121, ln_121, tn_122, ln_122, tn_123, ln_123, ob_124, tn_125, ln_125, tn_126, ln_126, tn_127, ln_127, tn_128, ln_128, tn_129, ln_129, tn_130, ln_130, tn_131, ln_131, tn_132, ln_132, tn_133, ln_133, ob_134, tn_135, ln_135, tn_136, ln_136, tn_137, ln_137, tn_138, ln_138, tn_139, ln_139, tn_140, ln_140, tn_141, ln_141, tn_142, ln_142, tn_143, ln_143, ob_144, tn_145, ln_145, tn_146, ln_146, tn_147, ln_147, tn_148, ln_148, tn_149, ln_149, tn_150, ln_150, tn_151, ln_151, tn_152, ln_152, tn_153, ln_153, ob_154, tn_155, ln_155, tn_156, ln_156, tn_157, ln_157, tn_158, ln_158, tn_159, ln_159, tn_160, ln_160, tn_161, ln_161, tn_162, ln_162, tn_163, ln_163, ob_164, tn_165, ln_165, tn_166, ln_166, ob_167, tn_168, ln_168, tn_169, ln_169, tn_170, ln_170, tn_171, ln_171, tn_172, ln_172, tn_173, ln_173, tn_174, ln_174, tn_175, ln_175, tn_176, ln_176, ob_177, tn_178, ln_178, tn_179, ln_179, ob_180, tn_181, ln_181, tn_182, ln_182, tn_183, ln_183, tn_184, ln_184, tn_185, ln_185, tn_186, ln_186, tn_187, ln_187, tn_188, ln_188, tn_189, ln_189, tn_190, ln_190, tn_191, ln_191, tn_192, ln_192, tn_193, ln_193, tn_194, ln_194, tn_195, ln_195, tn_196, ln_196, tn_197, ln_197, tn_198, ln_198, tn_199, ln_199, tn_200, ln_200, tn_201, ln_201, tn_202, ln_202, tn_203, ln_203, tn_204, ln_204, tn_205, ln_205, tn_206, ln_206, tn_207, ln_207, tn_208, ln_208, tn_209, ln_209, tn_210, ln_210, tn_211, ln_211, tn_212, ln_212, tn_213, ln_213, tn_214, ln_214, tn_215, ln_215, tn_216, ln_216, tn_217, ln_217, tn_218, ln_218, tn_219, ln_219, tn_220, ln_220, tn_221, ln_221, tn_222, ln_222, tn_223, ln_223, tn_224, ln_224, tn_225, ln_225, tn_226, ln_226, tn_227, ln_227, tn_228, ln_228, tn_229, ln_229, tn_230, ln_230, lx2, lx3, lx4, lx5, lx6, lx7, lx8, lx9, lx10, lx14, lx15, lx16, lx18, lx20, lx24, lx25, lx27, lx32, lx36, lx40, lx41, lx42, lx43, lx45, lx48, lx52, lx54, lx56, lx57, lx58, lx60, lx61, lx62, lx63, lx64, lx66, lx69, lx73, lx80, lx81, lx84, lx85, lx87, lx94, lx96, lx97, lx120, lx128, lx135, lx160, lx162, lx163, lx165, lx200, lx232, lx242, lx243, lx255, lx256, lx320, lx325, lx400, lx405, lx464, lx512, lx600, lx640, lx752, lx900, lx940, lx1000, lx1024, lx1764, lx3360, lx3840, lx5000, lx6400, lx9050, lx9998, lx9999, lx10000, lx25600, lx76800, lx99999]
    exact xE0 (s.1 - 0, 0, 0) ⟨v, s, i, 0, none, hM, hq, hok, h2, hi, hP, by omega, rfl, rfl, rfl, rfl⟩
  · rintro q m x A P - μ L st B ⟨v, s, i, t, o5, hM, hq, hok, h2, hi, hP, ht, rfl, rfl, rfl, rfl⟩
    obtain ⟨k40, k1, k20, ksq, kpd⟩ := hok
    obtain ⟨b1, b2, b3, b4, b5, b6, b7⟩ := xSen_28
    obtain ⟨s1, s2, s3, s4, s5⟩ := hq
    have hlen := tvF_len (v := v) (i := i) ksq t ht
    have h20 := pd_20 ksq ht
    have hen := encB_20 (l := tvF v i s.2.2 t) (by omega)
    have hN := vN_le hM.1.2.1
    have ixu : ∀ a : Nat, a < 2 ^ 31 → nI a &&& 1 = nI (a % 2) := fun a ha => by rw [pk_andN (by omega) 1 (by decide +kernel)]
    simp (disch := omega) only [k_X8_holdsOf_0, k_X8_holdsOf_5, k_X8_holdsOf_134, w_RIII, x_aload, x_cs4, x_getF, x_getI, x_iald, x_iand, x_icmp_ge, x_icmp_ne, x_if_eq, x_iinc, x_iload, x_ior, x_ishl, x_istore, x_iushr, x_ixor, x_push, x_zret, xFT, xbool0, xbool1, Nat.reduceAdd, Nat.zero_add, xgl_0, xgl_s, xgl_n, xst_0, xst_1n, xst_1i, xst_1r, xst_1l, xst_s, set_0, set_s, true_and, and_true, xres, xcat_nil, xcat_i, xcat_r, xcat_l, Nat.add_zero, xble0, xble1, xble2, xble3, xble4, xble5, xble6, xble7, xble8, pk_mul, nI_add, nI_1, nI_leI, nI_ltI, nI_eq, n_in, n_cl, z_eq, z_lt, z_le, z_gt, z_ge, z_qe, o_eq, o_lt, o_le, o_gt, o_ge, vp0, vp1, cl0, cl1, n_sub, n_sub1, n_pm1, n_a0, n_0a, ofn, lN0, Nat.reduceLT, Nat.reduceLeDiff, Nat.reduceMul, Nat.reduceSub, Nat.reduceEqDiff, ne_eq, true_implies, false_implies, not_true_eq_false, not_false_eq_true, and_self, and_true, true_and, and_false, false_and, implies_true, if_true, if_false, i00, i10, i01, i11, ob_0, ob_1, tn_2, ln_2, ob_3, tn_4, ln_4, ob_5, tn_6, ln_6, tn_7, ln_7, ob_8, tn_9, ln_9, tn_10, ln_10, tn_11, ln_11, tn_12, ln_12, tn_13, ln_13, tn_14, ln_14, tn_15, ln_15, tn_16, ln_16, tn_17, ln_17, ob_18, tn_19, ln_19, tn_20, ln_20, tn_21, ln_21, tn_22, ln_22, tn_23, ln_23, tn_24, ln_24, tn_25, ln_25, tn_26, ln_26, tn_27, ln_27, ob_28, tn_29, ln_29, tn_30, ln_30, ob_31, tn_32, ln_32, tn_33, ln_33, ob_34, ob_35, tn_36, ln_36, tn_37, ln_37, tn_38, ln_38, ob_39, tn_40, ln_40, tn_41, ln_41, tn_42, ln_42, tn_43, ln_43, tn_44, ln_44, tn_45, ln_45, tn_46, ln_46, tn_47, ln_47, tn_48, ln_48, tn_49, ln_49, tn_50, ln_50, tn_51, ln_51, ob_52, tn_53, ln_53, tn_54, ln_54, tn_55, ln_55, tn_56, ln_56, ob_57, tn_58, ln_58, tn_59, ln_59, tn_60, ln_60, tn_61, ln_61, tn_62, ln_62, tn_63, ln_63, tn_64, ln_64, tn_65, ln_65, ob_66, tn_67, ln_67, tn_68, ln_68, tn_69, ln_69, tn_70, ln_70, tn_71, ln_71, tn_72, ln_72, tn_73, ln_73, ob_74, tn_75, ln_75, tn_76, ln_76, tn_77, ln_77, tn_78, ln_78, tn_79, ln_79, tn_80, ln_80, tn_81, ln_81, tn_82, ln_82, tn_83, ln_83, ob_84, tn_85, ln_85, tn_86, ln_86, tn_87, ln_87, tn_88, ln_88, tn_89, ln_89, tn_90, ln_90, tn_91, ln_91, tn_92, ln_92, tn_93, ln_93, ob_94, tn_95, ln_95, tn_96, ln_96, tn_97, ln_97, tn_98, ln_98, tn_99, ln_99, tn_100, ln_100, tn_101, ln_101, tn_102, ln_102, tn_103, ln_103, ob_104, tn_105, ln_105, tn_106, ln_106, tn_107, ln_107, tn_108, ln_108, tn_109, ln_109, tn_110, ln_110, tn_111, ln_111, tn_112, ln_112, tn_113, ln_113, ob_114, tn_115, ln_115, tn_116, ln_116, tn_117, ln_117, tn_118, ln_118, tn_119, ln_119, tn_120, ln_120, tn_121, ln_121, tn_122, ln_122, tn_123, ln_123, ob_124, tn_125, ln_125, tn_126, ln_126, tn_127, ln_127, tn_128, ln_128, tn_129, ln_129, tn_130, ln_130, tn_131, ln_131, tn_132, ln_132, tn_133, ln_133, ob_134, tn_135, ln_135, tn_136, ln_136, tn_137, ln_137, tn_138, ln_138, tn_139, ln_139, tn_140, ln_140, tn_141, ln_141, tn_142, ln_142, tn_143, ln_143, ob_144, tn_145, ln_145, tn_146, ln_146, tn_147, ln_147, tn_148, ln_148, tn_149, ln_149, tn_150, ln_150, tn_151, ln_151, tn_152, ln_152, tn_153, ln_153, ob_154, tn_155, ln_155, tn_156, ln_156, tn_157, ln_157, tn_158, ln_158, tn_159, ln_159, tn_160, ln_160, tn_161, ln_161, tn_162, ln_162, tn_163, ln_163, ob_164, tn_165, ln_165, tn_166, ln_166, ob_167, tn_168, ln_168, tn_169, ln_169, tn_170, ln_170, tn_171, ln_171, tn_172, ln_172, tn_173, ln_173, tn_174, ln_174, tn_175, ln_175, tn_176, ln_176, ob_177, tn_178, ln_178, tn_179, ln_179, ob_180, tn_181, ln_181, tn_182, ln_182, tn_183, ln_183, tn_184, ln_184, tn_185, ln_185, tn_186, ln_186, tn_187, ln_187, tn_188, ln_188, tn_189, ln_189, tn_190, ln_190, tn_191, ln_191, tn_192, ln_192, tn_193, ln_193, tn_194, ln_194, tn_195, ln_195, tn_196, ln_196, tn_197, ln_197, tn_198, ln_198, tn_199, ln_199, tn_200, ln_200, tn_201, ln_201, tn_202, ln_202, tn_203, ln_203, tn_204, ln_204, tn_205, ln_205, tn_206, ln_206, tn_207, ln_207, tn_208, ln_208, tn_209, ln_209, tn_210, ln_210, tn_211, ln_211, tn_212, ln_212, tn_213, ln_213, tn_214, ln_214, tn_215, ln_215, tn_216, ln_216, tn_217, ln_217, tn_218, ln_218, tn_219, ln_219, tn_220, ln_220, tn_221, ln_221, tn_222, ln_222, tn_223, ln_223, tn_224, ln_224, tn_225, ln_225, tn_226, ln_226, tn_227, ln_227, tn_228, ln_228, tn_229, ln_229, tn_230, ln_230, lx2, lx3, lx4, lx5, lx6, lx7, lx8, lx9, lx10, lx14, lx15, lx16, lx18, lx20, lx24, lx25, lx27, lx32, lx36, lx40, lx41, lx42, lx43, lx45, lx48, lx52, lx54, lx56, lx57, lx58, lx60, lx61, lx62, lx63, lx64, lx66, lx69, lx73, lx80, lx81, lx84, lx85, lx87, lx94, lx96, lx97, lx120, lx128, lx135, lx160, lx162, lx163, lx165, lx200, lx232, lx242, lx243, lx255, lx256, lx320, lx325, lx400, lx405, lx464, lx512, lx600, lx640, lx752, lx900, lx940, lx1000, lx1024, lx1764, lx3360, lx3840, lx5000, lx6400, lx9050, lx9998, lx9999, lx10000, lx25600, lx76800, lx99999, b1, b2, b3, b4, b5, b6, b7, s3]
    refine ⟨fun q => ?_, fun q => ?_⟩
    · have : t = s.1 := by omega
      subst this
      unfold tvR at hP
      obtain ⟨x, r, hl⟩ := len1 (l := tvF v i s.2.2 s.1) (by omega)
      rw [hl] at hP hen ⊢
      rw [enc_and (by omega)]
      simp only [hdB] at hP
      cases x
      · exact ⟨fun _ => hP, fun q => absurd q (by decide +kernel)⟩
      · exact ⟨fun q => absurd rfl q, fun _ => hP⟩
    · have htl : t < s.1 := by omega
      obtain ⟨c1, c2, c3, c4⟩ := ksq t htl
      have c1 : okC (s.2.2 t) := c1
      have c2 : (s.2.2 t).1 = 20 → 1 ≤ pdC s.2.2 t := c2
      have c3 : (s.2.2 t).1 = 21 ∨ (s.2.2 t).1 = 22 → 2 ≤ pdC s.2.2 t := c3
      have e5 := s5 t htl
      dsimp only at e5
      obtain ⟨m, m1, m2, m5, m6, m7⟩ := cOp_n c1
      have e29 : xi B 29 t = nI m := by rw [← m1]; exact e5.1
      have nxt : ∀ o, encB (tvF v i s.2.2 (t + 1)) = encB (tvS (lfV v i (s.2.2 t)) (s.2.2 t).1 (tvF v i s.2.2 t)) → k_X8_holdsOf_116 P (xB (hoI B P) (s.1 - t, 0, 0)) [some (.ref 28), some (.ref 8), some (.int (nI i)), some (.int (nI (encB (tvS (lfV v i (s.2.2 t)) (s.2.2 t).1 (tvF v i s.2.2 t))))), some (.int (nI t)), o] [] B := fun o e => by
        simp (disch := omega) only [k_X8_holdsOf_0, k_X8_holdsOf_5, k_X8_holdsOf_114, k_X8_holdsOf_116, k_X8_holdsOf_134, w_RIII, x_aload, x_cs4, x_getF, x_getI, x_iald, x_iand, x_icmp_ge, x_icmp_ne, x_if_eq, x_iinc, x_iload, x_ior, x_ishl, x_istore, x_iushr, x_ixor, x_push, x_zret, xFT, xbool0, xbool1, Nat.reduceAdd, Nat.zero_add, xgl_0, xgl_s, xgl_n, xst_0, xst_1n, xst_1i, xst_1r, xst_1l, xst_s, set_0, set_s, true_and, and_true, xres, xcat_nil, xcat_i, xcat_r, xcat_l, Nat.add_zero, xble0, xble1, xble2, xble3, xble4, xble5, xble6, xble7, xble8, pk_mul, nI_add, nI_1, nI_leI, nI_ltI, nI_eq, n_in, n_cl, z_eq, z_lt, z_le, z_gt, z_ge, z_qe, o_eq, o_lt, o_le, o_gt, o_ge, vp0, vp1, cl0, cl1, n_sub, n_sub1, n_pm1, n_a0, n_0a, ofn, lN0, Nat.reduceLT, Nat.reduceLeDiff, Nat.reduceMul, Nat.reduceSub, Nat.reduceEqDiff, ne_eq, true_implies, false_implies, not_true_eq_false, not_false_eq_true, and_self, and_true, true_and, and_false, false_and, implies_true, if_true, if_false, i00, i10, i01, i11, ob_0, ob_1, tn_2, ln_2, ob_3, tn_4, ln_4, ob_5, tn_6, ln_6, tn_7, ln_7, ob_8, tn_9, ln_9, tn_10, ln_10, tn_11, ln_11, tn_12, ln_12, tn_13, ln_13, tn_14, ln_14, tn_15, ln_15, tn_16, ln_16, tn_17, ln_17, ob_18, tn_19, ln_19, tn_20, ln_20, tn_21, ln_21, tn_22, ln_22, tn_23, ln_23, tn_24, ln_24, tn_25, ln_25, tn_26, ln_26, tn_27, ln_27, ob_28, tn_29, ln_29, tn_30, ln_30, ob_31, tn_32, ln_32, tn_33, ln_33, ob_34, ob_35, tn_36, ln_36, tn_37, ln_37, tn_38, ln_38, ob_39, tn_40, ln_40, tn_41, ln_41, tn_42, ln_42, tn_43, ln_43, tn_44, ln_44, tn_45, ln_45, tn_46, ln_46, tn_47, ln_47, tn_48, ln_48, tn_49, ln_49, tn_50, ln_50, tn_51, ln_51, ob_52, tn_53, ln_53, tn_54, ln_54, tn_55, ln_55, tn_56, ln_56, ob_57, tn_58, ln_58, tn_59, ln_59, tn_60, ln_60, tn_61, ln_61, tn_62, ln_62, tn_63, ln_63, tn_64, ln_64, tn_65, ln_65, ob_66, tn_67, ln_67, tn_68, ln_68, tn_69, ln_69, tn_70, ln_70, tn_71, ln_71, tn_72, ln_72, tn_73, ln_73, ob_74, tn_75, ln_75, tn_76, ln_76, tn_77, ln_77, tn_78, ln_78, tn_79, ln_79, tn_80, ln_80, tn_81, ln_81, tn_82, ln_82, tn_83, ln_83, ob_84, tn_85, ln_85, tn_86, ln_86, tn_87, ln_87, tn_88, ln_88, tn_89, ln_89, tn_90, ln_90, tn_91, ln_91, tn_92, ln_92, tn_93, ln_93, ob_94, tn_95, ln_95, tn_96, ln_96, tn_97, ln_97, tn_98, ln_98, tn_99, ln_99, tn_100, ln_100, tn_101, ln_101, tn_102, ln_102, tn_103, ln_103, ob_104, tn_105, ln_105, tn_106, ln_106, tn_107, ln_107, tn_108, ln_108, tn_109, ln_109, tn_110, ln_110, tn_111, ln_111, tn_112, ln_112, tn_113, ln_113, ob_114, tn_115, ln_115, tn_116, ln_116, tn_117, ln_117, tn_118, ln_118, tn_119, ln_119, tn_120, ln_120, tn_121, ln_121, tn_122, ln_122, tn_123, ln_123, ob_124, tn_125, ln_125, tn_126, ln_126, tn_127, ln_127, tn_128, ln_128, tn_129, ln_129, tn_130, ln_130, tn_131, ln_131, tn_132, ln_132, tn_133, ln_133, ob_134, tn_135, ln_135, tn_136, ln_136, tn_137, ln_137, tn_138, ln_138, tn_139, ln_139, tn_140, ln_140, tn_141, ln_141, tn_142, ln_142, tn_143, ln_143, ob_144, tn_145, ln_145, tn_146, ln_146, tn_147, ln_147, tn_148, ln_148, tn_149, ln_149, tn_150, ln_150, tn_151, ln_151, tn_152, ln_152, tn_153, ln_153, ob_154, tn_155, ln_155, tn_156, ln_156, tn_157, ln_157, tn_158, ln_158, tn_159, ln_159, tn_160, ln_160, tn_161, ln_161, tn_162, ln_162, tn_163, ln_163, ob_164, tn_165, ln_165, tn_166, ln_166, ob_167, tn_168, ln_168, tn_169, ln_169, tn_170, ln_170, tn_171, ln_171, tn_172, ln_172, tn_173, ln_173, tn_174, ln_174, tn_175, ln_175, tn_176, ln_176, ob_177, tn_178, ln_178, tn_179, ln_179, ob_180, tn_181, ln_181, tn_182, ln_182, tn_183, ln_183, tn_184, ln_184, tn_185, ln_185, tn_186, ln_186, tn_187, ln_187, tn_188, ln_188, tn_189, ln_189, tn_190, ln_190, tn_191, ln_191, tn_192, ln_192, tn_193, ln_193, tn_194, ln_194, tn_195, ln_195, tn_196, ln_196, tn_197, ln_197, tn_198, ln_198, tn_199, ln_199, tn_200, ln_200, tn_201, ln_201, tn_202, ln_202, tn_203, ln_203, tn_204, ln_204, tn_205, ln_205, tn_206, ln_206, tn_207, ln_207, tn_208, ln_208, tn_209, ln_209, tn_210, ln_210, tn_211, ln_211, tn_212, ln_212, tn_213, ln_213, tn_214, ln_214, tn_215, ln_215, tn_216, ln_216, tn_217, ln_217, tn_218, ln_218, tn_219, ln_219, tn_220, ln_220, tn_221, ln_221, tn_222, ln_222, tn_223, ln_223, tn_224, ln_224, tn_225, ln_225, tn_226, ln_226, tn_227, ln_227, tn_228, ln_228, tn_229, ln_229, tn_230, ln_230, lx2, lx3, lx4, lx5, lx6, lx7, lx8, lx9, lx10, lx14, lx15, lx16, lx18, lx20, lx24, lx25, lx27, lx32, lx36, lx40, lx41, lx42, lx43, lx45, lx48, lx52, lx54, lx56, lx57, lx58, lx60, lx61, lx62, lx63, lx64, lx66, lx69, lx73, lx80, lx81, lx84, lx85, lx87, lx94, lx96, lx97, lx120, lx128, lx135, lx160, lx162, lx163, lx165, lx200, lx232, lx242, lx243, lx255, lx256, lx320, lx325, lx400, lx405, lx464, lx512, lx600, lx640, lx752, lx900, lx940, lx1000, lx1024, lx1764, lx3360, lx3840, lx5000, lx6400, lx9050, lx9998, lx9999, lx10000, lx25600, lx76800, lx99999]
        exact xB1 (b := s.1 - (t + 1)) (by omega) ⟨v, s, i, t + 1, _, hM, ⟨s1, s2, s3, s4, s5⟩, ⟨k40, k1, k20, ksq, kpd⟩, h2, hi, hP, by omega, rfl, rfl, by rw [e], rfl⟩
      have nxt := fun o => nxt o rfl
      simp (disch := omega) only [k_X8_holdsOf_0, k_X8_holdsOf_5, k_X8_holdsOf_134, w_RIII, x_aload, x_cs4, x_getF, x_getI, x_iald, x_iand, x_icmp_ge, x_icmp_ne, x_if_eq, x_iinc, x_iload, x_ior, x_ishl, x_istore, x_iushr, x_ixor, x_push, x_zret, xFT, xbool0, xbool1, Nat.reduceAdd, Nat.zero_add, xgl_0, xgl_s, xgl_n, xst_0, xst_1n, xst_1i, xst_1r, xst_1l, xst_s, set_0, set_s, true_and, and_true, xres, xcat_nil, xcat_i, xcat_r, xcat_l, Nat.add_zero, xble0, xble1, xble2, xble3, xble4, xble5, xble6, xble7, xble8, pk_mul, nI_add, nI_1, nI_leI, nI_ltI, nI_eq, n_in, n_cl, z_eq, z_lt, z_le, z_gt, z_ge, z_qe, o_eq, o_lt, o_le, o_gt, o_ge, vp0, vp1, cl0, cl1, n_sub, n_sub1, n_pm1, n_a0, n_0a, ofn, lN0, Nat.reduceLT, Nat.reduceLeDiff, Nat.reduceMul, Nat.reduceSub, Nat.reduceEqDiff, ne_eq, true_implies, false_implies, not_true_eq_false, not_false_eq_true, and_self, and_true, true_and, and_false, false_and, implies_true, if_true, if_false, i00, i10, i01, i11, ob_0, ob_1, tn_2, ln_2, ob_3, tn_4, ln_4, ob_5, tn_6, ln_6, tn_7, ln_7, ob_8, tn_9, ln_9, tn_10, ln_10, tn_11, ln_11, tn_12, ln_12, tn_13, ln_13, tn_14, ln_14, tn_15, ln_15, tn_16, ln_16, tn_17, ln_17, ob_18, tn_19, ln_19, tn_20, ln_20, tn_21, ln_21, tn_22, ln_22, tn_23, ln_23, tn_24, ln_24, tn_25, ln_25, tn_26, ln_26, tn_27, ln_27, ob_28, tn_29, ln_29, tn_30, ln_30, ob_31, tn_32, ln_32, tn_33, ln_33, ob_34, ob_35, tn_36, ln_36, tn_37, ln_37, tn_38, ln_38, ob_39, tn_40, ln_40, tn_41, ln_41, tn_42, ln_42, tn_43, ln_43, tn_44, ln_44, tn_45, ln_45, tn_46, ln_46, tn_47, ln_47, tn_48, ln_48, tn_49, ln_49, tn_50, ln_50, tn_51, ln_51, ob_52, tn_53, ln_53, tn_54, ln_54, tn_55, ln_55, tn_56, ln_56, ob_57, tn_58, ln_58, tn_59, ln_59, tn_60, ln_60, tn_61, ln_61, tn_62, ln_62, tn_63, ln_63, tn_64, ln_64, tn_65, ln_65, ob_66, tn_67, ln_67, tn_68, ln_68, tn_69, ln_69, tn_70, ln_70, tn_71, ln_71, tn_72, ln_72, tn_73, ln_73, ob_74, tn_75, ln_75, tn_76, ln_76, tn_77, ln_77, tn_78, ln_78, tn_79, ln_79, tn_80, ln_80, tn_81, ln_81, tn_82, ln_82, tn_83, ln_83, ob_84, tn_85, ln_85, tn_86, ln_86, tn_87, ln_87, tn_88, ln_88, tn_89, ln_89, tn_90, ln_90, tn_91, ln_91, tn_92, ln_92, tn_93, ln_93, ob_94, tn_95, ln_95, tn_96, ln_96, tn_97, ln_97, tn_98, ln_98, tn_99, ln_99, tn_100, ln_100, tn_101, ln_101, tn_102, ln_102, tn_103, ln_103, ob_104, tn_105, ln_105, tn_106, ln_106, tn_107, ln_107, tn_108, ln_108, tn_109, ln_109, tn_110, ln_110, tn_111, ln_111, tn_112, ln_112, tn_113, ln_113, ob_114, tn_115, ln_115, tn_116, ln_116, tn_117, ln_117, tn_118, ln_118, tn_119, ln_119, tn_120, ln_120, tn_121, ln_121, tn_122, ln_122, tn_123, ln_123, ob_124, tn_125, ln_125, tn_126, ln_126, tn_127, ln_127, tn_128, ln_128, tn_129, ln_129, tn_130, ln_130, tn_131, ln_131, tn_132, ln_132, tn_133, ln_133, ob_134, tn_135, ln_135, tn_136, ln_136, tn_137, ln_137, tn_138, ln_138, tn_139, ln_139, tn_140, ln_140, tn_141, ln_141, tn_142, ln_142, tn_143, ln_143, ob_144, tn_145, ln_145, tn_146, ln_146, tn_147, ln_147, tn_148, ln_148, tn_149, ln_149, tn_150, ln_150, tn_151, ln_151, tn_152, ln_152, tn_153, ln_153, ob_154, tn_155, ln_155, tn_156, ln_156, tn_157, ln_157, tn_158, ln_158, tn_159, ln_159, tn_160, ln_160, tn_161, ln_161, tn_162, ln_162, tn_163, ln_163, ob_164, tn_165, ln_165, tn_166, ln_166, ob_167, tn_168, ln_168, tn_169, ln_169, tn_170, ln_170, tn_171, ln_171, tn_172, ln_172, tn_173, ln_173, tn_174, ln_174, tn_175, ln_175, tn_176, ln_176, ob_177, tn_178, ln_178, tn_179, ln_179, ob_180, tn_181, ln_181, tn_182, ln_182, tn_183, ln_183, tn_184, ln_184, tn_185, ln_185, tn_186, ln_186, tn_187, ln_187, tn_188, ln_188, tn_189, ln_189, tn_190, ln_190, tn_191, ln_191, tn_192, ln_192, tn_193, ln_193, tn_194, ln_194, tn_195, ln_195, tn_196, ln_196, tn_197, ln_197, tn_198, ln_198, tn_199, ln_199, tn_200, ln_200, tn_201, ln_201, tn_202, ln_202, tn_203, ln_203, tn_204, ln_204, tn_205, ln_205, tn_206, ln_206, tn_207, ln_207, tn_208, ln_208, tn_209, ln_209, tn_210, ln_210, tn_211, ln_211, tn_212, ln_212, tn_213, ln_213, tn_214, ln_214, tn_215, ln_215, tn_216, ln_216, tn_217, ln_217, tn_218, ln_218, tn_219, ln_219, tn_220, ln_220, tn_221, ln_221, tn_222, ln_222, tn_223, ln_223, tn_224, ln_224, tn_225, ln_225, tn_226, ln_226, tn_227, ln_227, tn_228, ln_228, tn_229, ln_229, tn_230, ln_230, lx2, lx3, lx4, lx5, lx6, lx7, lx8, lx9, lx10, lx14, lx15, lx16, lx18, lx20, lx24, lx25, lx27, lx32, lx36, lx40, lx41, lx42, lx43, lx45, lx48, lx52, lx54, lx56, lx57, lx58, lx60, lx61, lx62, lx63, lx64, lx66, lx69, lx73, lx80, lx81, lx84, lx85, lx87, lx94, lx96, lx97, lx120, lx128, lx135, lx160, lx162, lx163, lx165, lx200, lx232, lx242, lx243, lx255, lx256, lx320, lx325, lx400, lx405, lx464, lx512, lx600, lx640, lx752, lx900, lx940, lx1000, lx1024, lx1764, lx3360, lx3840, lx5000, lx6400, lx9050, lx9998, lx9999, lx10000, lx25600, lx76800, lx99999, e29, b1, b2, b3, b4, b5, b6, b7]
      generalize hl : tvF v i s.2.2 t = l at *
      generalize hlf : lfV v i (s.2.2 t) = lf at *
      unfold tvS at nxt
      refine ⟨by omega, fun q5 => ⟨by omega, fun q6 => ⟨by omega, fun q7 => ?_, fun q7 => ?_⟩, fun q6 => ?_⟩, fun q5 => ?_⟩
      · rw [if_neg (by omega), if_neg (by omega), if_neg (by omega)] at nxt
        refine ⟨by omega, by omega, ?_⟩
        rw [e5.2, ← m1]
        have c1' := c1
        unfold okC at c1'
        refine simple_C hM h2 hi c1 (by omega) ?_
        rw [hlf]
        simp (disch := omega) only [k_X8_holdsOf_0, k_X8_holdsOf_5, k_X8_holdsOf_134, w_RIII, x_aload, x_cs4, x_getF, x_getI, x_iald, x_iand, x_icmp_ge, x_icmp_ne, x_if_eq, x_iinc, x_iload, x_ior, x_ishl, x_istore, x_iushr, x_ixor, x_push, x_zret, xFT, xbool0, xbool1, Nat.reduceAdd, Nat.zero_add, xgl_0, xgl_s, xgl_n, xst_0, xst_1n, xst_1i, xst_1r, xst_1l, xst_s, set_0, set_s, true_and, and_true, xres, xcat_nil, xcat_i, xcat_r, xcat_l, Nat.add_zero, xble0, xble1, xble2, xble3, xble4, xble5, xble6, xble7, xble8, pk_mul, nI_add, nI_1, nI_leI, nI_ltI, nI_eq, n_in, n_cl, z_eq, z_lt, z_le, z_gt, z_ge, z_qe, o_eq, o_lt, o_le, o_gt, o_ge, vp0, vp1, cl0, cl1, n_sub, n_sub1, n_pm1, n_a0, n_0a, ofn, lN0, Nat.reduceLT, Nat.reduceLeDiff, Nat.reduceMul, Nat.reduceSub, Nat.reduceEqDiff, ne_eq, true_implies, false_implies, not_true_eq_false, not_false_eq_true, and_self, and_true, true_and, and_false, false_and, implies_true, if_true, if_false, i00, i10, i01, i11, ob_0, ob_1, tn_2, ln_2, ob_3, tn_4, ln_4, ob_5, tn_6, ln_6, tn_7, ln_7, ob_8, tn_9, ln_9, tn_10, ln_10, tn_11, ln_11, tn_12, ln_12, tn_13, ln_13, tn_14, ln_14, tn_15, ln_15, tn_16, ln_16, tn_17, ln_17, ob_18, tn_19, ln_19, tn_20, ln_20, tn_21, ln_21, tn_22, ln_22, tn_23, ln_23, tn_24, ln_24, tn_25, ln_25, tn_26, ln_26, tn_27, ln_27, ob_28, tn_29, ln_29, tn_30, ln_30, ob_31, tn_32, ln_32, tn_33, ln_33, ob_34, ob_35, tn_36, ln_36, tn_37, ln_37, tn_38, ln_38, ob_39, tn_40, ln_40, tn_41, ln_41, tn_42, ln_42, tn_43, ln_43, tn_44, ln_44, tn_45, ln_45, tn_46, ln_46, tn_47, ln_47, tn_48, ln_48, tn_49, ln_49, tn_50, ln_50, tn_51, ln_51, ob_52, tn_53, ln_53, tn_54, ln_54, tn_55, ln_55, tn_56, ln_56, ob_57, tn_58, ln_58, tn_59, ln_59, tn_60, ln_60, tn_61, ln_61, tn_62, ln_62, tn_63, ln_63, tn_64, ln_64, tn_65, ln_65, ob_66, tn_67, ln_67, tn_68, ln_68, tn_69, ln_69, tn_70, ln_70, tn_71, ln_71, tn_72, ln_72, tn_73, ln_73, ob_74, tn_75, ln_75, tn_76, ln_76, tn_77, ln_77, tn_78, ln_78, tn_79, ln_79, tn_80, ln_80, tn_81, ln_81, tn_82, ln_82, tn_83, ln_83, ob_84, tn_85, ln_85, tn_86, ln_86, tn_87, ln_87, tn_88, ln_88, tn_89, ln_89, tn_90, ln_90, tn_91, ln_91, tn_92, ln_92, tn_93, ln_93, ob_94, tn_95, ln_95, tn_96, ln_96, tn_97, ln_97, tn_98, ln_98, tn_99, ln_99, tn_100, ln_100, tn_101, ln_101, tn_102, ln_102, tn_103, ln_103, ob_104, tn_105, ln_105, tn_106, ln_106, tn_107, ln_107, tn_108, ln_108, tn_109, ln_109, tn_110, ln_110, tn_111, ln_111, tn_112, ln_112, tn_113, ln_113, ob_114, tn_115, ln_115, tn_116, ln_116, tn_117, ln_117, tn_118, ln_118, tn_119, ln_119, tn_120, ln_120, tn_121, ln_121, tn_122, ln_122, tn_123, ln_123, ob_124, tn_125, ln_125, tn_126, ln_126, tn_127, ln_127, tn_128, ln_128, tn_129, ln_129, tn_130, ln_130, tn_131, ln_131, tn_132, ln_132, tn_133, ln_133, ob_134, tn_135, ln_135, tn_136, ln_136, tn_137, ln_137, tn_138, ln_138, tn_139, ln_139, tn_140, ln_140, tn_141, ln_141, tn_142, ln_142, tn_143, ln_143, ob_144, tn_145, ln_145, tn_146, ln_146, tn_147, ln_147, tn_148, ln_148, tn_149, ln_149, tn_150, ln_150, tn_151, ln_151, tn_152, ln_152, tn_153, ln_153, ob_154, tn_155, ln_155, tn_156, ln_156, tn_157, ln_157, tn_158, ln_158, tn_159, ln_159, tn_160, ln_160, tn_161, ln_161, tn_162, ln_162, tn_163, ln_163, ob_164, tn_165, ln_165, tn_166, ln_166, ob_167, tn_168, ln_168, tn_169, ln_169, tn_170, ln_170, tn_171, ln_171, tn_172, ln_172, tn_173, ln_173, tn_174, ln_174, tn_175, ln_175, tn_176, ln_176, ob_177, tn_178, ln_178, tn_179, ln_179, ob_180, tn_181, ln_181, tn_182, ln_182, tn_183, ln_183, tn_184, ln_184, tn_185, ln_185, tn_186, ln_186, tn_187, ln_187, tn_188, ln_188, tn_189, ln_189, tn_190, ln_190, tn_191, ln_191, tn_192, ln_192, tn_193, ln_193, tn_194, ln_194, tn_195, ln_195, tn_196, ln_196, tn_197, ln_197, tn_198, ln_198, tn_199, ln_199, tn_200, ln_200, tn_201, ln_201, tn_202, ln_202, tn_203, ln_203, tn_204, ln_204, tn_205, ln_205, tn_206, ln_206, tn_207, ln_207, tn_208, ln_208, tn_209, ln_209, tn_210, ln_210, tn_211, ln_211, tn_212, ln_212, tn_213, ln_213, tn_214, ln_214, tn_215, ln_215, tn_216, ln_216, tn_217, ln_217, tn_218, ln_218, tn_219, ln_219, tn_220, ln_220, tn_221, ln_221, tn_222, ln_222, tn_223, ln_223, tn_224, ln_224, tn_225, ln_225, tn_226, ln_226, tn_227, ln_227, tn_228, ln_228, tn_229, ln_229, tn_230, ln_230, lx2, lx3, lx4, lx5, lx6, lx7, lx8, lx9, lx10, lx14, lx15, lx16, lx18, lx20, lx24, lx25, lx27, lx32, lx36, lx40, lx41, lx42, lx43, lx45, lx48, lx52, lx54, lx56, lx57, lx58, lx60, lx61, lx62, lx63, lx64, lx66, lx69, lx73, lx80, lx81, lx84, lx85, lx87, lx94, lx96, lx97, lx120, lx128, lx135, lx160, lx162, lx163, lx165, lx200, lx232, lx242, lx243, lx255, lx256, lx320, lx325, lx400, lx405, lx464, lx512, lx600, lx640, lx752, lx900, lx940, lx1000, lx1024, lx1764, lx3360, lx3840, lx5000, lx6400, lx9050, lx9998, lx9999, lx10000, lx25600, lx76800, lx99999, bI_t]
        have ep := enc_push (b := lf) (l := l) (by omega)
        cases lf
        · refine ⟨fun _ => ?_, fun q => absurd rfl q⟩
          simp (disch := omega) only [k_X8_holdsOf_0, k_X8_holdsOf_5, k_X8_holdsOf_114, k_X8_holdsOf_134, w_RIII, x_aload, x_cs4, x_getF, x_getI, x_iald, x_iand, x_icmp_ge, x_icmp_ne, x_if_eq, x_iinc, x_iload, x_ior, x_ishl, x_istore, x_iushr, x_ixor, x_push, x_zret, xFT, xbool0, xbool1, Nat.reduceAdd, Nat.zero_add, xgl_0, xgl_s, xgl_n, xst_0, xst_1n, xst_1i, xst_1r, xst_1l, xst_s, set_0, set_s, true_and, and_true, xres, xcat_nil, xcat_i, xcat_r, xcat_l, Nat.add_zero, xble0, xble1, xble2, xble3, xble4, xble5, xble6, xble7, xble8]
          have ep : nI (encB l) <<< ((1 : Int32) &&& 31) ||| 0 = nI (encB (false :: l)) := ep
          rw [ep]; exact nxt _
        · refine ⟨fun q => Bool.noConfusion q, fun _ => ?_⟩
          simp (disch := omega) only [k_X8_holdsOf_0, k_X8_holdsOf_5, k_X8_holdsOf_114, k_X8_holdsOf_134, w_RIII, x_aload, x_cs4, x_getF, x_getI, x_iald, x_iand, x_icmp_ge, x_icmp_ne, x_if_eq, x_iinc, x_iload, x_ior, x_ishl, x_istore, x_iushr, x_ixor, x_push, x_zret, xFT, xbool0, xbool1, Nat.reduceAdd, Nat.zero_add, xgl_0, xgl_s, xgl_n, xst_0, xst_1n, xst_1i, xst_1r, xst_1l, xst_s, set_0, set_s, true_and, and_true, xres, xcat_nil, xcat_i, xcat_r, xcat_l, Nat.add_zero, xble0, xble1, xble2, xble3, xble4, xble5, xble6, xble7, xble8]
          have ep : nI (encB l) <<< ((1 : Int32) &&& 31) ||| 1 = nI (encB (true :: l)) := ep
          rw [ep]; exact nxt _
      · have k7 := m7.mp q7
        rw [if_neg (by omega), if_neg (by omega), if_pos k7] at nxt
        obtain ⟨x, y, r, rfl⟩ := len2 (l := l) (by have := c3 (Or.inr k7); omega)
        rw [enc_shr (by omega), enc_and (by omega), enc_or (by omega)]
        exact nxt _
      · have k6 := m6.mp q6
        rw [if_neg (by omega), if_pos k6] at nxt
        obtain ⟨x, y, r, rfl⟩ := len2 (l := l) (by have := c3 (Or.inl k6); omega)
        rw [enc_shr (by omega), enc_and (by omega), enc_and2 (by omega)]
        exact nxt _
      · have k5 := m5.mp q5
        rw [if_pos k5] at nxt
        obtain ⟨x, r, rfl⟩ := len1 (l := l) (by have := c2 k5; omega)
        rw [enc_not (by omega)]
        exact nxt _
theorem d_X11_said_0 : decode cX11_said 0 = .ok (.aload_n 0, 1) := by decide +kernel
theorem d_X11_said_1 : decode cX11_said 1 = .ok (.getfield 38, 3) := by decide +kernel
theorem d_X11_said_4 : decode cX11_said 4 = .ok (.getfield 373, 3) := by decide +kernel
theorem d_X11_said_7 : decode cX11_said 7 = .ok (.ifCond .eq 8, 3) := by decide +kernel
theorem d_X11_said_10 : decode cX11_said 10 = .ok (.iload_n 1, 1) := by decide +kernel
theorem d_X11_said_11 : decode cX11_said 11 = .ok (.iconst (-1), 1) := by decide +kernel
theorem d_X11_said_12 : decode cX11_said 12 = .ok (.if_icmp .ge 5, 3) := by decide +kernel
theorem d_X11_said_15 : decode cX11_said 15 = .ok (.iconst (-1), 1) := by decide +kernel
theorem d_X11_said_16 : decode cX11_said 16 = .ok (.ireturn, 1) := by decide +kernel
theorem d_X11_said_17 : decode cX11_said 17 = .ok (.iconst 0, 1) := by decide +kernel
theorem d_X11_said_18 : decode cX11_said 18 = .ok (.istore_n 2, 1) := by decide +kernel
theorem d_X11_said_19 : decode cX11_said 19 = .ok (.iconst 2, 1) := by decide +kernel
theorem d_X11_said_20 : decode cX11_said 20 = .ok (.istore_n 3, 1) := by decide +kernel
theorem d_X11_said_21 : decode cX11_said 21 = .ok (.iload_n 3, 1) := by decide +kernel
theorem d_X11_said_22 : decode cX11_said 22 = .ok (.aload_n 0, 1) := by decide +kernel
theorem d_X11_said_23 : decode cX11_said 23 = .ok (.getfield 28, 3) := by decide +kernel
theorem d_X11_said_26 : decode cX11_said 26 = .ok (.getfield 187, 3) := by decide +kernel
theorem d_X11_said_29 : decode cX11_said 29 = .ok (.if_icmp .ge 34, 3) := by decide +kernel
theorem d_X11_said_32 : decode cX11_said 32 = .ok (.aload_n 0, 1) := by decide +kernel
theorem d_X11_said_33 : decode cX11_said 33 = .ok (.getfield 38, 3) := by decide +kernel
theorem d_X11_said_36 : decode cX11_said 36 = .ok (.aload_n 0, 1) := by decide +kernel
theorem d_X11_said_37 : decode cX11_said 37 = .ok (.getfield 28, 3) := by decide +kernel
theorem d_X11_said_40 : decode cX11_said 40 = .ok (.iload_n 3, 1) := by decide +kernel
theorem d_X11_said_41 : decode cX11_said 41 = .ok (.invokevirtual 376, 3) := by decide +kernel
theorem d_X11_said_44 : decode cX11_said 44 = .ok (.ifCond .eq 13, 3) := by decide +kernel
theorem d_X11_said_47 : decode cX11_said 47 = .ok (.iload_n 2, 1) := by decide +kernel
theorem d_X11_said_48 : decode cX11_said 48 = .ok (.iload_n 1, 1) := by decide +kernel
theorem d_X11_said_49 : decode cX11_said 49 = .ok (.if_icmp .ne 5, 3) := by decide +kernel
theorem d_X11_said_52 : decode cX11_said 52 = .ok (.iload_n 3, 1) := by decide +kernel
theorem d_X11_said_53 : decode cX11_said 53 = .ok (.ireturn, 1) := by decide +kernel
theorem d_X11_said_54 : decode cX11_said 54 = .ok (.iinc 2 1, 3) := by decide +kernel
theorem d_X11_said_57 : decode cX11_said 57 = .ok (.iinc 3 1, 3) := by decide +kernel
theorem d_X11_said_60 : decode cX11_said 60 = .ok (.goto (-39), 3) := by decide +kernel
theorem d_X11_said_63 : decode cX11_said 63 = .ok (.iload_n 1, 1) := by decide +kernel
theorem d_X11_said_64 : decode cX11_said 64 = .ok (.iconst (-1), 1) := by decide +kernel
theorem d_X11_said_65 : decode cX11_said 65 = .ok (.if_icmp .ne 7, 3) := by decide +kernel
theorem d_X11_said_68 : decode cX11_said 68 = .ok (.iload_n 2, 1) := by decide +kernel
theorem d_X11_said_69 : decode cX11_said 69 = .ok (.goto 4, 3) := by decide +kernel
theorem d_X11_said_72 : decode cX11_said 72 = .ok (.iconst (-1), 1) := by decide +kernel
theorem d_X11_said_73 : decode cX11_said 73 = .ok (.ireturn, 1) := by decide +kernel
def k_X11_said_15 (P : xP) : xK := x_push (.int (-1)) (x_iret P)
set_option maxRecDepth 20000 in
theorem t_X11_said_15 {p : Program} {l : Launch} {e : Env} {s : State} {m : MethodId} {args : Array Value} {below : List Frame} {meth : Method} {c : Code} {g : xG} (X : xX p s m args c meth cX11_said RX11 4 g) (hr : meth.sig.returnType = (some .int)) {P : xP} : xAt p l e { frames := 4, cells := 0, slots := 0, locals := 91 } s m args below meth c g 4 xFT xN 0 0 (MQ below (xQc g xFT xN P) args s 0 0 (xFr g)) (k_X11_said_15 P) 15 := by
  unfold k_X11_said_15
  refine r_iconst (pc := 15) X d_X11_said_15 (by decide +kernel) ?_
  exact r_iret (pc := 16) X hr d_X11_said_16
def k_X11_said_0 (P : xP) (C21 : xK) : xK := x_aload 0 (y_getF 0 28 (y_getI 28 3 (x_if_eq ((k_X11_said_15 P)) (x_iload 1 (x_push (.int (-1)) (x_icmp_ge (x_push (.int 0) (x_istore 2 (x_push (.int 2) (x_istore 3 (C21))))) ((k_X11_said_15 P))))))))
set_option maxRecDepth 20000 in
theorem t_X11_said_0 {p : Program} {l : Launch} {e : Env} {s : State} {m : MethodId} {args : Array Value} {below : List Frame} {meth : Method} {c : Code} {g : xG} (X : xX p s m args c meth cX11_said RX11 4 g) (hr : meth.sig.returnType = (some .int)) {P : xP} {C21 : xK} (h21 : xAt p l e { frames := 4, cells := 0, slots := 0, locals := 91 } s m args below meth c g 4 xFT xN 0 0 (MQ below (xQc g xFT xN P) args s 0 0 (xFr g)) C21 21) : xAt p l e { frames := 4, cells := 0, slots := 0, locals := 91 } s m args below meth c g 4 xFT xN 0 0 (MQ below (xQc g xFT xN P) args s 0 0 (xFr g)) (k_X11_said_0 P C21) 0 := by
  unfold k_X11_said_0
  refine r_aload_n (pc := 0) X d_X11_said_0 fn0 ?_
  refine s_getF (pc := 1) (ci := 11) (k := 4) X xok11 (by decide +kernel) ob_0 trivial ly_0_4 (by decide +kernel) fl_RX11_38 d_X11_said_1 ?_
  refine s_getI (pc := 4) (ci := 8) X xok8 (by decide +kernel) ob_28 (by decide +kernel) fl_RX11_373 d_X11_said_4 ?_
  refine r_if_eq (pc := 7) (tgt := 15) X d_X11_said_7 (by decide +kernel) ?_ ?_
  · exact t_X11_said_15 X hr
  · refine r_iload_n (pc := 10) X d_X11_said_10 fn1 ?_
    refine r_iconst (pc := 11) X d_X11_said_11 (by decide +kernel) ?_
    refine r_icmp_ge (pc := 12) (tgt := 17) X d_X11_said_12 (by decide +kernel) ?_ ?_
    · refine r_iconst (pc := 17) X d_X11_said_17 (by decide +kernel) ?_
      refine r_istore_n (pc := 18) X d_X11_said_18 fn2 (by decide +kernel) ?_
      refine r_iconst (pc := 19) X d_X11_said_19 (by decide +kernel) ?_
      refine r_istore_n (pc := 20) X d_X11_said_20 fn3 (by decide +kernel) ?_
      exact h21
    · exact t_X11_said_15 X hr
def k_X11_said_73 (P : xP) : xK := x_iret P
set_option maxRecDepth 20000 in
theorem t_X11_said_73 {p : Program} {l : Launch} {e : Env} {s : State} {m : MethodId} {args : Array Value} {below : List Frame} {meth : Method} {c : Code} {g : xG} (X : xX p s m args c meth cX11_said RX11 4 g) (hr : meth.sig.returnType = (some .int)) {P : xP} : xAt p l e { frames := 4, cells := 0, slots := 0, locals := 91 } s m args below meth c g 4 xFT xN 0 0 (MQ below (xQc g xFT xN P) args s 0 0 (xFr g)) (k_X11_said_73 P) 73 := by
  unfold k_X11_said_73
  exact r_iret (pc := 73) X hr d_X11_said_73
def k_X11_said_57 (P : xP) (C21 : xK) : xK := x_iinc 3 1 (C21)
set_option maxRecDepth 20000 in
theorem t_X11_said_57 {p : Program} {l : Launch} {e : Env} {s : State} {m : MethodId} {args : Array Value} {below : List Frame} {meth : Method} {c : Code} {g : xG} (X : xX p s m args c meth cX11_said RX11 4 g) (hr : meth.sig.returnType = (some .int)) {P : xP} {C21 : xK} (h21 : xAt p l e { frames := 4, cells := 0, slots := 0, locals := 91 } s m args below meth c g 4 xFT xN 0 0 (MQ below (xQc g xFT xN P) args s 0 0 (xFr g)) C21 21) : xAt p l e { frames := 4, cells := 0, slots := 0, locals := 91 } s m args below meth c g 4 xFT xN 0 0 (MQ below (xQc g xFT xN P) args s 0 0 (xFr g)) (k_X11_said_57 P C21) 57 := by
  unfold k_X11_said_57
  refine r_iinc (pc := 57) X d_X11_said_57 (by decide +kernel) (by decide +kernel) ?_
  refine r_goto (pc := 60) (tgt := 21) X d_X11_said_60 (by decide +kernel) ?_
  exact h21
def k_X11_said_21 (P : xP) (C21 : xK) : xK := x_iload 3 (x_aload 0 (y_getF 0 8 (y_getI 8 3 (x_icmp_ge (x_iload 1 (x_push (.int (-1)) (x_icmp_ne (x_push (.int (-1)) ((k_X11_said_73 P))) (x_iload 2 ((k_X11_said_73 P)))))) (x_aload 0 (y_getF 0 28 (x_aload 0 (y_getF 0 8 (x_iload 3 (y_cv2 28 (w_RRI f_X8_holdsOf) (x_if_eq ((k_X11_said_57 P C21)) (x_iload 2 (x_iload 1 (x_icmp_ne (x_iinc 2 1 ((k_X11_said_57 P C21))) (x_iload 3 (x_iret P))))))))))))))))
set_option maxRecDepth 20000 in
theorem t_X11_said_21 {p : Program} {l : Launch} {e : Env} {s : State} {m : MethodId} {args : Array Value} {below : List Frame} {meth : Method} {c : Code} {g : xG} (X : xX p s m args c meth cX11_said RX11 4 g) (hr : meth.sig.returnType = (some .int)) {P : xP} {C21 : xK} (h21 : xAt p l e { frames := 4, cells := 0, slots := 0, locals := 91 } s m args below meth c g 4 xFT xN 0 0 (MQ below (xQc g xFT xN P) args s 0 0 (xFr g)) C21 21) : xAt p l e { frames := 4, cells := 0, slots := 0, locals := 91 } s m args below meth c g 4 xFT xN 0 0 (MQ below (xQc g xFT xN P) args s 0 0 (xFr g)) (k_X11_said_21 P C21) 21 := by
  unfold k_X11_said_21
  refine r_iload_n (pc := 21) X d_X11_said_21 fn3 ?_
  refine r_aload_n (pc := 22) X d_X11_said_22 fn0 ?_
  refine s_getF (pc := 23) (ci := 11) (k := 2) X xok11 (by decide +kernel) ob_0 trivial ly_0_2 (by decide +kernel) fl_RX11_28 d_X11_said_23 ?_
  refine s_getI (pc := 26) (ci := 4) X xok4 (by decide +kernel) ob_8 (by decide +kernel) fl_RX11_187 d_X11_said_26 ?_
  refine r_icmp_ge (pc := 29) (tgt := 63) X d_X11_said_29 (by decide +kernel) ?_ ?_
  · refine r_iload_n (pc := 63) X d_X11_said_63 fn1 ?_
    refine r_iconst (pc := 64) X d_X11_said_64 (by decide +kernel) ?_
    refine r_icmp_ne (pc := 65) (tgt := 72) X d_X11_said_65 (by decide +kernel) ?_ ?_
    · refine r_iconst (pc := 72) X d_X11_said_72 (by decide +kernel) ?_
      exact t_X11_said_73 X hr
    · refine r_iload_n (pc := 68) X d_X11_said_68 fn2 ?_
      refine r_goto (pc := 69) (tgt := 73) X d_X11_said_69 (by decide +kernel) ?_
      exact t_X11_said_73 X hr
  · refine r_aload_n (pc := 32) X d_X11_said_32 fn0 ?_
    refine s_getF (pc := 33) (ci := 11) (k := 4) X xok11 (by decide +kernel) ob_0 trivial ly_0_4 (by decide +kernel) fl_RX11_38 d_X11_said_33 ?_
    refine r_aload_n (pc := 36) X d_X11_said_36 fn0 ?_
    refine s_getF (pc := 37) (ci := 11) (k := 2) X xok11 (by decide +kernel) ob_0 trivial ly_0_2 (by decide +kernel) fl_RX11_28 d_X11_said_37 ?_
    refine r_iload_n (pc := 40) X d_X11_said_40 fn3 ?_
    refine s_cv2 (pc := 41) (ci := 8) X xok8 (by decide +kernel) ob_28 rfl (con_X8_holdsOf l) mf_X8_holdsOf ml_RX11_376 (by decide +kernel) (by decide +kernel) d_X11_said_41 ?_
    refine r_if_eq (pc := 44) (tgt := 57) X d_X11_said_44 (by decide +kernel) ?_ ?_
    · exact t_X11_said_57 X hr h21
    · refine r_iload_n (pc := 47) X d_X11_said_47 fn2 ?_
      refine r_iload_n (pc := 48) X d_X11_said_48 fn1 ?_
      refine r_icmp_ne (pc := 49) (tgt := 54) X d_X11_said_49 (by decide +kernel) ?_ ?_
      · refine r_iinc (pc := 54) X d_X11_said_54 (by decide +kernel) (by decide +kernel) ?_
        exact t_X11_said_57 X hr h21
      · refine r_iload_n (pc := 52) X d_X11_said_52 fn3 ?_
        exact r_iret (pc := 53) X hr d_X11_said_53
set_option maxRecDepth 20000 in
theorem m_X11_said {l : Launch} {f : Nat → Int32 → xH → xP → Prop}  {I21 : Nat → Int32 → xH → xP → xM → xK}
    (v0 : ∀ (a0 : Nat) (a1 : Int32) (A : xH) (P : xP), f a0 a1 A P → k_X11_said_0 P (xE (I21 a0 a1 A P)) [some (.ref a0), some (.int a1), none, none] [] A)
    (v21 : ∀ (a0 : Nat) (a1 : Int32) (A : xH) (P : xP), f a0 a1 A P → ∀ (μ : xM) (L : xL) (st : List Value) (B : xH), I21 a0 a1 A P μ L st B → k_X11_said_21 P (xB (I21 a0 a1 A P) μ) L st B) : xCon l yX11_said cX11_said 4 (some .int) 4 91 xN xN 0 xFT xFT (w_RI f) := by
  refine xc_RI (plainFor_of_name pn_RX11) (by decide +kernel) (fun p e s m args below meth c g a0 a1 A P h X hr _ => ?_)
  have h21 := x_loop1 (p := p) (l := l) (e := e) (R := { frames := 4, cells := 0, slots := 0, locals := 91 }) (s := s) (m := m) (args := args) (below := below) (meth := meth) (c := c) (g := g) (nL := 4) (F := xFT) (n := xN) (cells := 0) (slots := 0) (Q := MQ below (xQc g xFT xN P) args s 0 0 (xFr g)) (I := I21 a0 a1 A P) (pc1 := 21) (fun μ i21 => xAt_mono (t_X11_said_21 (P := P) X hr i21) (v21 a0 a1 A P h μ))
  exact ⟨_, v0 a0 a1 A P h, t_X11_said_0 X hr h21⟩
/-- how many, up to an item, of those of which it may be said -/
def sdN (v : xV) (s : xQ) : Nat → Nat
  | 0 => 0
  | i + 1 => sdN v s i + (if 2 ≤ i ∧ tvR v i s = true then 1 else 0)
theorem sdN_le (v : xV) (s : xQ) : ∀ i, sdN v s i ≤ i
  | 0 => Nat.le_refl _
  | i + 1 => by have := sdN_le v s i; simp only [sdN]; split <;> omega
/-- the one that is sought: the first whose number it is -/
def sdF (v : xV) (s : xQ) (k : Nat) : Nat → Nat
  | 0 => 0
  | i + 1 => if sdF v s k i < i then sdF v s k i else if 2 ≤ i ∧ tvR v i s = true ∧ sdN v s i = k then i else i + 1
def sdA (v : xV) (s : xQ) (x : Int32) : Int32 := if s.2.1 = 0 then -1 else if x = -1 then nI (sdN v s (vN v)) else if x < 0 then -1 else if sdF v s x.toNatClampNeg (vN v) < vN v then nI (sdF v s x.toNatClampNeg (vN v)) else -1
/-- a sentence that is none, or a good one -/
def okQ0 (s : xQ) : Prop := (s.1 = 0 ∧ s.2.1 = 0) ∨ okQ s
theorem sdF_le (v : xV) (s : xQ) (k : Nat) : ∀ i, sdF v s k i ≤ i
  | 0 => Nat.le_refl _
  | i + 1 => by
    have := sdF_le v s k i
    simp only [sdF]
    repeat' split
    all_goals omega
theorem sdF_mono {v : xV} {s : xQ} {k i : Nat} (h : sdF v s k i < i) : ∀ j, i ≤ j → sdF v s k j = sdF v s k i := by
  intro j hj
  induction j with
  | zero => rw [show i = 0 by omega]
  | succ j ih =>
    by_cases e : i = j + 1
    · rw [e]
    · have := ih (by omega)
      simp only [sdF, this]
      rw [if_pos (by omega)]
def f_X11_said (q : Nat) (x : Int32) (A : xH) (P : xP) : Prop := q = 0 ∧ ∃ v s, isM A 8 v ∧ qC A 28 s ∧ okQ0 s ∧ P (some (.int (sdA v s x))) A
def sdI (x : Int32) (A : xH) (P : xP) : xM → xK := fun μ L st B => ∃ v s i, isM A 8 v ∧ qC A 28 s ∧ okQ s ∧ P (some (.int (sdA v s x))) A ∧ -1 ≤ x ∧ 2 ≤ i ∧ i ≤ vN v ∧ (x ≠ -1 → ¬ sdF v s x.toNatClampNeg i < i) ∧ B = A ∧ st = [] ∧ L = [some (.ref 0), some (.int x), some (.int (nI (sdN v s i))), some (.int (nI i))] ∧ μ = (vN v - i, 0, 0)
theorem m1_le (x : Int32) : (-1 : Int32) ≤ x ↔ x = -1 ∨ ¬ x < 0 := by
  rw [Int32.le_iff_toInt_le, n_m1, Int32.lt_iff_toInt_lt, ← Int32.toInt_inj, n_m1]
  have : (0 : Int32).toInt = 0 := by decide +kernel
  omega
set_option maxRecDepth 20000 in
theorem con_X11_said (l : Launch) : xCon l yX11_said cX11_said 4 (some .int) 4 91 xN xN 0 xFT xFT (w_RI f_X11_said) := by
  refine m_X11_said (I21 := fun q x A P => sdI x A P) ?_ ?_
  · rintro q x A P ⟨rfl, v, s, hM, hq, hok, hP⟩
    have e3 : xi A 28 3 = nI s.2.1 := hq.2.2.2.1
    have hm : s.2.1 ≤ 40 := hq.2.1
    have hN2 := vN_ge v
    simp (disch := omega) only [k_X11_said_0, k_X11_said_21, k_X11_said_15, k_X11_said_57, k_X11_said_73, w_RRI, x_aload, x_icmp_ge, x_icmp_ne, x_if_eq, x_iinc, x_iload, x_iret, x_istore, x_push, y_cv2, y_getF, y_getI, xFT, xbool0, xbool1, Nat.reduceAdd, Nat.zero_add, xgl_0, xgl_s, xgl_n, xst_0, xst_1n, xst_1i, xst_1r, xst_1l, xst_s, set_0, set_s, true_and, and_true, xres, xcat_nil, xcat_i, xcat_r, xcat_l, Nat.add_zero, xble0, xble1, xble2, xble3, xble4, xble5, xble6, xble7, xble8, pk_mul, nI_add, nI_1, nI_leI, nI_ltI, nI_eq, n_in, n_cl, z_eq, z_lt, z_le, z_gt, z_ge, z_qe, o_eq, o_lt, o_le, o_gt, o_ge, vp0, vp1, cl0, cl1, n_sub, n_sub1, n_pm1, n_a0, n_0a, ofn, lN0, Nat.reduceLT, Nat.reduceLeDiff, Nat.reduceMul, Nat.reduceSub, Nat.reduceEqDiff, ne_eq, true_implies, false_implies, not_true_eq_false, not_false_eq_true, and_self, and_true, true_and, and_false, false_and, implies_true, if_true, if_false, i00, i10, i01, i11, ob_0, ob_1, tn_2, ln_2, ob_3, tn_4, ln_4, ob_5, tn_6, ln_6, tn_7, ln_7, ob_8, tn_9, ln_9, tn_10, ln_10, tn_11, ln_11, tn_12, ln_12, tn_13, ln_13, tn_14, ln_14, tn_15, ln_15, tn_16, ln_16, tn_17, ln_17, ob_18, tn_19, ln_19, tn_20, ln_20, tn_21, ln_21, tn_22, ln_22, tn_23, ln_23, tn_24, ln_24, tn_25, ln_25, tn_26, ln_26, tn_27, ln_27, ob_28, tn_29, ln_29, tn_30, ln_30, ob_31, tn_32, ln_32, tn_33, ln_33, ob_34, ob_35, tn_36, ln_36, tn_37, ln_37, tn_38, ln_38, ob_39, tn_40, ln_40, tn_41, ln_41, tn_42, ln_42, tn_43, ln_43, tn_44, ln_44, tn_45, ln_45, tn_46, ln_46, tn_47, ln_47, tn_48, ln_48, tn_49, ln_49, tn_50, ln_50, tn_51, ln_51, ob_52, tn_53, ln_53, tn_54, ln_54, tn_55, ln_55, tn_56, ln_56, ob_57, tn_58, ln_58, tn_59, ln_59, tn_60, ln_60, tn_61, ln_61, tn_62, ln_62, tn_63, ln_63, tn_64, ln_64, tn_65, ln_65, ob_66, tn_67, ln_67, tn_68, ln_68, tn_69, ln_69, tn_70, ln_70, tn_71, ln_71, tn_72, ln_72, tn_73, ln_73, ob_74, tn_75, ln_75, tn_76, ln_76, tn_77, ln_77, tn_78, ln_78, tn_79, ln_79, tn_80, ln_80, tn_81, ln_81, tn_82, ln_82, tn_83, ln_83, ob_84, tn_85, ln_85, tn_86, ln_86, tn_87, ln_87, tn_88, ln_88, tn_89, ln_89, tn_90, ln_90, tn_91, ln_91, tn_92, ln_92, tn_93, ln_93, ob_94, tn_95, ln_95, tn_96, ln_96, tn_97, ln_97, tn_98, ln_98, tn_99, ln_99, tn_100, ln_100, tn_101, ln_101, tn_102, ln_102, tn_103, ln_103, ob_104, tn_105, ln_105, tn_106, ln_106, tn_107, ln_107, tn_108, ln_108, tn_109, ln_109, tn_110, ln_110, tn_111, ln_111, tn_112, ln_112, tn_113, ln_113, ob_114, tn_115, ln_115, tn_116, ln_116, tn_117, ln_117, tn_118, ln_118, tn_119, ln_119, tn_120, ln_120, tn_121, ln_121, tn_122, ln_122, tn_123, ln_123, ob_124, tn_125, ln_125, tn_126, ln_126, tn_127, ln_127, tn_128, ln_128, tn_129, ln_129, tn_130, ln_130, tn_131, ln_131, tn_132, ln_132, tn_133, ln_133, ob_134, tn_135, ln_135, tn_136, ln_136, tn_137, ln_137, tn_138, ln_138, tn_139, ln_139, tn_140, ln_140, tn_141, ln_141, tn_142, ln_142, tn_143, ln_143, ob_144, tn_145, ln_145, tn_146, ln_146, tn_147, ln_147, tn_148, ln_148, tn_149, ln_149, tn_150, ln_150, tn_151, ln_151, tn_152, ln_152, tn_153, ln_153, ob_154, tn_155, ln_155, tn_156, ln_156, tn_157, ln_157, tn_158, ln_158, tn_159, ln_159, tn_160, ln_160, tn_161, ln_161, tn_162, ln_162, tn_163, ln_163, ob_164, tn_165, ln_165, tn_166, ln_166, ob_167, tn_168, ln_168, tn_169, ln_169, tn_170, ln_170, tn_171, ln_171, tn_172, ln_172, tn_173, ln_173, tn_174, ln_174, tn_175, ln_175, tn_176, ln_176, ob_177, tn_178, ln_178, tn_179, ln_179, ob_180, tn_181, ln_181, tn_182, ln_182, tn_183, ln_183, tn_184, ln_184, tn_185, ln_185, tn_186, ln_186, tn_187, ln_187, tn_188, ln_188, tn_189, ln_189, tn_190, ln_190, tn_191, ln_191, tn_192, ln_192, tn_193, ln_193, tn_194, ln_194, tn_195, ln_195, tn_196, ln_196, tn_197, ln_197, tn_198, ln_198, tn_199, ln_199, tn_200, ln_200, tn_201, ln_201, tn_202, ln_202, tn_203, ln_203, tn_204, ln_204, tn_205, ln_205, tn_206, ln_206, tn_207, ln_207, tn_208, ln_208, tn_209, ln_209, tn_210, ln_210, tn_211, ln_211, tn_212, ln_212, tn_213, ln_213, tn_214, ln_214, tn_215, ln_215, tn_216, ln_216, tn_217, ln_217, tn_218, ln_218, tn_219, ln_219, tn_220, ln_220, tn_221, ln_221, tn_222, ln_222, tn_223, ln_223, tn_224, ln_224, tn_225, ln_225, tn_226, ln_226, tn_227, ln_227, tn_228, ln_228, tn_229, ln_229, tn_230, ln_230, lx2, lx3, lx4, lx5, lx6, lx7, lx8, lx9, lx10, lx14, lx15, lx16, lx18, lx20, lx24, lx25, lx27, lx32, lx36, lx40, lx41, lx42, lx43, lx45, lx48, lx52, lx54, lx56, lx57, lx58, lx60, lx61, lx62, lx63, lx64, lx66, lx69, lx73, lx80, lx81, lx84, lx85, lx87, lx94, lx96, lx97, lx120, lx128, lx135, lx160, lx162, lx163, lx165, lx200, lx232, lx242, lx243, lx255, lx256, lx320, lx325, lx400, lx405, lx464, lx512, lx600, lx640, lx752, lx900, lx940, lx1000, lx1024, lx1764, lx3360, lx3840, lx5000, lx6400, lx9050, lx9998, lx9999, lx10000, lx25600, lx76800, lx99999, e3]
    refine ⟨fun z => ?_, fun z => ⟨fun z2 => ?_, fun z2 => ?_⟩⟩
    · unfold sdA at hP; rw [if_pos z] at hP; exact hP
    · have hok : okQ s := hok.resolve_left fun w => z w.2
      refine xE0 (vN v - 2, 0, 0) ⟨v, s, 2, hM, hq, hok, hP, z2, by omega, hN2, fun _ => ?_, rfl, rfl, ?_, rfl⟩
      · simp [sdF]
      · simp [sdN]; rfl
    · unfold sdA at hP
      have hx := mt (m1_le x).mpr z2
      rw [if_neg z, if_neg (fun w => hx (Or.inl w)), if_pos (Classical.not_not.mp fun w => hx (Or.inr w))] at hP
      exact hP
  · rintro q x A P - μ L st B ⟨v, s, i, hM, hq, hok, hP, hx, h2, hi, hF, rfl, rfl, rfl, rfl⟩
    have hw := hM.1.2.1
    have hN := vN_le hw
    have e3 : xi B 8 3 = nI (vN v) := hM.2.2.1.1
    have hok1 : 1 ≤ s.2.1 := hok.2.1
    have hc := sdN_le v s i
    simp (disch := omega) only [k_X11_said_0, k_X11_said_21, k_X11_said_15, k_X11_said_57, k_X11_said_73, w_RRI, x_aload, x_icmp_ge, x_icmp_ne, x_if_eq, x_iinc, x_iload, x_iret, x_istore, x_push, y_cv2, y_getF, y_getI, xFT, xbool0, xbool1, Nat.reduceAdd, Nat.zero_add, xgl_0, xgl_s, xgl_n, xst_0, xst_1n, xst_1i, xst_1r, xst_1l, xst_s, set_0, set_s, true_and, and_true, xres, xcat_nil, xcat_i, xcat_r, xcat_l, Nat.add_zero, xble0, xble1, xble2, xble3, xble4, xble5, xble6, xble7, xble8, pk_mul, nI_add, nI_1, nI_leI, nI_ltI, nI_eq, n_in, n_cl, z_eq, z_lt, z_le, z_gt, z_ge, z_qe, o_eq, o_lt, o_le, o_gt, o_ge, vp0, vp1, cl0, cl1, n_sub, n_sub1, n_pm1, n_a0, n_0a, ofn, lN0, Nat.reduceLT, Nat.reduceLeDiff, Nat.reduceMul, Nat.reduceSub, Nat.reduceEqDiff, ne_eq, true_implies, false_implies, not_true_eq_false, not_false_eq_true, and_self, and_true, true_and, and_false, false_and, implies_true, if_true, if_false, i00, i10, i01, i11, ob_0, ob_1, tn_2, ln_2, ob_3, tn_4, ln_4, ob_5, tn_6, ln_6, tn_7, ln_7, ob_8, tn_9, ln_9, tn_10, ln_10, tn_11, ln_11, tn_12, ln_12, tn_13, ln_13, tn_14, ln_14, tn_15, ln_15, tn_16, ln_16, tn_17, ln_17, ob_18, tn_19, ln_19, tn_20, ln_20, tn_21, ln_21, tn_22, ln_22, tn_23, ln_23, tn_24, ln_24, tn_25, ln_25, tn_26, ln_26, tn_27, ln_27, ob_28, tn_29, ln_29, tn_30, ln_30, ob_31, tn_32, ln_32, tn_33, ln_33, ob_34, ob_35, tn_36, ln_36, tn_37, ln_37, tn_38, ln_38, ob_39, tn_40, ln_40, tn_41, ln_41, tn_42, ln_42, tn_43, ln_43, tn_44, ln_44, tn_45, ln_45, tn_46, ln_46, tn_47, ln_47, tn_48, ln_48, tn_49, ln_49, tn_50, ln_50, tn_51, ln_51, ob_52, tn_53, ln_53, tn_54, ln_54, tn_55, ln_55, tn_56, ln_56, ob_57, tn_58, ln_58, tn_59, ln_59, tn_60, ln_60, tn_61, ln_61, tn_62, ln_62, tn_63, ln_63, tn_64, ln_64, tn_65, ln_65, ob_66, tn_67, ln_67, tn_68, ln_68, tn_69, ln_69, tn_70, ln_70, tn_71, ln_71, tn_72, ln_72, tn_73, ln_73, ob_74, tn_75, ln_75, tn_76, ln_76, tn_77, ln_77, tn_78, ln_78, tn_79, ln_79, tn_80, ln_80, tn_81, ln_81, tn_82, ln_82, tn_83, ln_83, ob_84, tn_85, ln_85, tn_86, ln_86, tn_87, ln_87, tn_88, ln_88, tn_89, ln_89, tn_90, ln_90, tn_91, ln_91, tn_92, ln_92, tn_93, ln_93, ob_94, tn_95, ln_95, tn_96, ln_96, tn_97, ln_97, tn_98, ln_98, tn_99, ln_99, tn_100, ln_100, tn_101, ln_101, tn_102, ln_102, tn_103, ln_103, ob_104, tn_105, ln_105, tn_106, ln_106, tn_107, ln_107, tn_108, ln_108, tn_109, ln_109, tn_110, ln_110, tn_111, ln_111, tn_112, ln_112, tn_113, ln_113, ob_114, tn_115, ln_115, tn_116, ln_116, tn_117, ln_117, tn_118, ln_118, tn_119, ln_119, tn_120, ln_120, tn_121, ln_121, tn_122, ln_122, tn_123, ln_123, ob_124, tn_125, ln_125, tn_126, ln_126, tn_127, ln_127, tn_128, ln_128, tn_129, ln_129, tn_130, ln_130, tn_131, ln_131, tn_132, ln_132, tn_133, ln_133, ob_134, tn_135, ln_135, tn_136, ln_136, tn_137, ln_137, tn_138, ln_138, tn_139, ln_139, tn_140, ln_140, tn_141, ln_141, tn_142, ln_142, tn_143, ln_143, ob_144, tn_145, ln_145, tn_146, ln_146, tn_147, ln_147, tn_148, ln_148, tn_149, ln_149, tn_150, ln_150, tn_151, ln_151, tn_152, ln_152, tn_153, ln_153, ob_154, tn_155, ln_155, tn_156, ln_156, tn_157, ln_157, tn_158, ln_158, tn_159, ln_159, tn_160, ln_160, tn_161, ln_161, tn_162, ln_162, tn_163, ln_163, ob_164, tn_165, ln_165, tn_166, ln_166, ob_167, tn_168, ln_168, tn_169, ln_169, tn_170, ln_170, tn_171, ln_171, tn_172, ln_172, tn_173, ln_173, tn_174, ln_174, tn_175, ln_175, tn_176, ln_176, ob_177, tn_178, ln_178, tn_179, ln_179, ob_180, tn_181, ln_181, tn_182, ln_182, tn_183, ln_183, tn_184, ln_184, tn_185, ln_185, tn_186, ln_186, tn_187, ln_187, tn_188, ln_188, tn_189, ln_189, tn_190, ln_190, tn_191, ln_191, tn_192, ln_192, tn_193, ln_193, tn_194, ln_194, tn_195, ln_195, tn_196, ln_196, tn_197, ln_197, tn_198, ln_198, tn_199, ln_199, tn_200, ln_200, tn_201, ln_201, tn_202, ln_202, tn_203, ln_203, tn_204, ln_204, tn_205, ln_205, tn_206, ln_206, tn_207, ln_207, tn_208, ln_208, tn_209, ln_209, tn_210, ln_210, tn_211, ln_211, tn_212, ln_212, tn_213, ln_213, tn_214, ln_214, tn_215, ln_215, tn_216, ln_216, tn_217, ln_217, tn_218, ln_218, tn_219, ln_219, tn_220, ln_220, tn_221, ln_221, tn_222, ln_222, tn_223, ln_223, tn_224, ln_224, tn_225, ln_225, tn_226, ln_226, tn_227, ln_227, tn_228, ln_228, tn_229, ln_229, tn_230, ln_230, lx2, lx3, lx4, lx5, lx6, lx7, lx8, lx9, lx10, lx14, lx15, lx16, lx18, lx20, lx24, lx25, lx27, lx32, lx36, lx40, lx41, lx42, lx43, lx45, lx48, lx52, lx54, lx56, lx57, lx58, lx60, lx61, lx62, lx63, lx64, lx66, lx69, lx73, lx80, lx81, lx84, lx85, lx87, lx94, lx96, lx97, lx120, lx128, lx135, lx160, lx162, lx163, lx165, lx200, lx232, lx242, lx243, lx255, lx256, lx320, lx325, lx400, lx405, lx464, lx512, lx600, lx640, lx752, lx900, lx940, lx1000, lx1024, lx1764, lx3360, lx3840, lx5000, lx6400, lx9050, lx9998, lx9999, lx10000, lx25600, lx76800, lx99999, e3]
    refine ⟨fun z => ?_, fun z => ?_⟩
    · have : i = vN v := by omega
      subst this
      unfold sdA at hP
      rw [if_neg (by omega)] at hP
      refine ⟨fun w => ?_, fun w => ?_⟩
      · have hF := hF w
        rw [if_neg w, if_neg (((m1_le x).mp hx).resolve_left w), if_neg hF] at hP
        exact hP
      · rw [if_pos w] at hP; exact hP
    · refine ⟨rfl, rfl, v, s, i, hM, hq, hok, rfl, h2, by omega, ?_⟩
      simp (disch := omega) only [k_X11_said_0, k_X11_said_21, k_X11_said_15, k_X11_said_57, k_X11_said_73, w_RRI, x_aload, x_icmp_ge, x_icmp_ne, x_if_eq, x_iinc, x_iload, x_iret, x_istore, x_push, y_cv2, y_getF, y_getI, xFT, xbool0, xbool1, Nat.reduceAdd, Nat.zero_add, xgl_0, xgl_s, xgl_n, xst_0, xst_1n, xst_1i, xst_1r, xst_1l, xst_s, set_0, set_s, true_and, and_true, xres, xcat_nil, xcat_i, xcat_r, xcat_l, Nat.add_zero, xble0, xble1, xble2, xble3, xble4, xble5, xble6, xble7, xble8, pk_mul, nI_add, nI_1, nI_leI, nI_ltI, nI_eq, n_in, n_cl, z_eq, z_lt, z_le, z_gt, z_ge, z_qe, o_eq, o_lt, o_le, o_gt, o_ge, vp0, vp1, cl0, cl1, n_sub, n_sub1, n_pm1, n_a0, n_0a, ofn, lN0, Nat.reduceLT, Nat.reduceLeDiff, Nat.reduceMul, Nat.reduceSub, Nat.reduceEqDiff, ne_eq, true_implies, false_implies, not_true_eq_false, not_false_eq_true, and_self, and_true, true_and, and_false, false_and, implies_true, if_true, if_false, i00, i10, i01, i11, ob_0, ob_1, tn_2, ln_2, ob_3, tn_4, ln_4, ob_5, tn_6, ln_6, tn_7, ln_7, ob_8, tn_9, ln_9, tn_10, ln_10, tn_11, ln_11, tn_12, ln_12, tn_13, ln_13, tn_14, ln_14, tn_15, ln_15, tn_16, ln_16, tn_17, ln_17, ob_18, tn_19, ln_19, tn_20, ln_20, tn_21, ln_21, tn_22, ln_22, tn_23, ln_23, tn_24, ln_24, tn_25, ln_25, tn_26, ln_26, tn_27, ln_27, ob_28, tn_29, ln_29, tn_30, ln_30, ob_31, tn_32, ln_32, tn_33, ln_33, ob_34, ob_35, tn_36, ln_36, tn_37, ln_37, tn_38, ln_38, ob_39, tn_40, ln_40, tn_41, ln_41, tn_42, ln_42, tn_43, ln_43, tn_44, ln_44, tn_45, ln_45, tn_46, ln_46, tn_47, ln_47, tn_48, ln_48, tn_49, ln_49, tn_50, ln_50, tn_51, ln_51, ob_52, tn_53, ln_53, tn_54, ln_54, tn_55, ln_55, tn_56, ln_56, ob_57, tn_58, ln_58, tn_59, ln_59, tn_60, ln_60, tn_61, ln_61, tn_62, ln_62, tn_63, ln_63, tn_64, ln_64, tn_65, ln_65, ob_66, tn_67, ln_67, tn_68, ln_68, tn_69, ln_69, tn_70, ln_70, tn_71, ln_71, tn_72, ln_72, tn_73, ln_73, ob_74, tn_75, ln_75, tn_76, ln_76, tn_77, ln_77, tn_78, ln_78, tn_79, ln_79, tn_80, ln_80, tn_81, ln_81, tn_82, ln_82, tn_83, ln_83, ob_84, tn_85, ln_85, tn_86, ln_86, tn_87, ln_87, tn_88, ln_88, tn_89, ln_89, tn_90, ln_90, tn_91, ln_91, tn_92, ln_92, tn_93, ln_93, ob_94, tn_95, ln_95, tn_96, ln_96, tn_97, ln_97, tn_98, ln_98, tn_99, ln_99, tn_100, ln_100, tn_101, ln_101, tn_102, ln_102, tn_103, ln_103, ob_104, tn_105, ln_105, tn_106, ln_106, tn_107, ln_107, tn_108, ln_108, tn_109, ln_109, tn_110, ln_110, tn_111, ln_111, tn_112, ln_112, tn_113, ln_113, ob_114, tn_115, ln_115, tn_116, ln_116, tn_117, ln_117, tn_118, ln_118, tn_119, ln_119, tn_120, ln_120, tn_121, ln_121, tn_122, ln_122, tn_123, ln_123, ob_124, tn_125, ln_125, tn_126, ln_126, tn_127, ln_127, tn_128, ln_128, tn_129, ln_129, tn_130, ln_130, tn_131, ln_131, tn_132, ln_132, tn_133, ln_133, ob_134, tn_135, ln_135, tn_136, ln_136, tn_137, ln_137, tn_138, ln_138, tn_139, ln_139, tn_140, ln_140, tn_141, ln_141, tn_142, ln_142, tn_143, ln_143, ob_144, tn_145, ln_145, tn_146, ln_146, tn_147, ln_147, tn_148, ln_148, tn_149, ln_149, tn_150, ln_150, tn_151, ln_151, tn_152, ln_152, tn_153, ln_153, ob_154, tn_155, ln_155, tn_156, ln_156, tn_157, ln_157, tn_158, ln_158, tn_159, ln_159, tn_160, ln_160, tn_161, ln_161, tn_162, ln_162, tn_163, ln_163, ob_164, tn_165, ln_165, tn_166, ln_166, ob_167, tn_168, ln_168, tn_169, ln_169, tn_170, ln_170, tn_171, ln_171, tn_172, ln_172, tn_173, ln_173, tn_174, ln_174, tn_175, ln_175, tn_176, ln_176, ob_177, tn_178, ln_178, tn_179, ln_179, ob_180, tn_181, ln_181, tn_182, ln_182, tn_183, ln_183, tn_184, ln_184, tn_185, ln_185, tn_186, ln_186, tn_187, ln_187, tn_188, ln_188, tn_189, ln_189, tn_190, ln_190, tn_191, ln_191, tn_192, ln_192, tn_193, ln_193, tn_194, ln_194, tn_195, ln_195, tn_196, ln_196, tn_197, ln_197, tn_198, ln_198, tn_199, ln_199, tn_200, ln_200, tn_201, ln_201, tn_202, ln_202, tn_203, ln_203, tn_204, ln_204, tn_205, ln_205, tn_206, ln_206, tn_207, ln_207, tn_208, ln_208, tn_209, ln_209, tn_210, ln_210, tn_211, ln_211, tn_212, ln_212, tn_213, ln_213, tn_214, ln_214, tn_215, ln_215, tn_216, ln_216, tn_217, ln_217, tn_218, ln_218, tn_219, ln_219, tn_220, ln_220, tn_221, ln_221, tn_222, ln_222, tn_223, ln_223, tn_224, ln_224, tn_225, ln_225, tn_226, ln_226, tn_227, ln_227, tn_228, ln_228, tn_229, ln_229, tn_230, ln_230, lx2, lx3, lx4, lx5, lx6, lx7, lx8, lx9, lx10, lx14, lx15, lx16, lx18, lx20, lx24, lx25, lx27, lx32, lx36, lx40, lx41, lx42, lx43, lx45, lx48, lx52, lx54, lx56, lx57, lx58, lx60, lx61, lx62, lx63, lx64, lx66, lx69, lx73, lx80, lx81, lx84, lx85, lx87, lx94, lx96, lx97, lx120, lx128, lx135, lx160, lx162, lx163, lx165, lx200, lx232, lx242, lx243, lx255, lx256, lx320, lx325, lx400, lx405, lx464, lx512, lx600, lx640, lx752, lx900, lx940, lx1000, lx1024, lx1764, lx3360, lx3840, lx5000, lx6400, lx9050, lx9998, lx9999, lx10000, lx25600, lx76800, lx99999, bI_t]
      have e1 : sdN v s (i + 1) = sdN v s i + (if 2 ≤ i ∧ tvR v i s = true then 1 else 0) := rfl
      have e2 : x ≠ -1 → sdF v s x.toNatClampNeg (i + 1) = if 2 ≤ i ∧ tvR v i s = true ∧ sdN v s i = x.toNatClampNeg then i else i + 1 := fun w => by
        simp only [sdF]; rw [if_neg (hF w)]
      cases ht : tvR v i s
      · refine ⟨fun _ => ?_, fun w => absurd rfl w⟩
        rw [ht] at e1 e2
        rw [if_neg (by simp)] at e1
        refine xB1 (b := vN v - (i + 1)) (by omega) ⟨v, s, i + 1, hM, hq, hok, hP, hx, by omega, by omega, fun w => ?_, rfl, rfl, by rw [e1]; rfl, rfl⟩
        rw [e2 w, if_neg (by simp)]; omega
      · refine ⟨fun w => Bool.noConfusion w, fun _ => ?_⟩
        rw [ht] at e1 e2
        rw [if_pos ⟨h2, rfl⟩] at e1
        refine ⟨fun w => ?_, fun w => ?_⟩
        · refine xB1 (b := vN v - (i + 1)) (by omega) ⟨v, s, i + 1, hM, hq, hok, hP, hx, by omega, by omega, fun w2 => ?_, rfl, rfl, by rw [e1], rfl⟩
          rw [e2 w2, if_neg ?_]
          · omega
          · rintro ⟨-, -, q3⟩
            refine w ?_
            rcases n_case x with y | ⟨k, hk, rfl⟩
            · exact absurd y (((m1_le x).mp hx).resolve_left w2)
            · rw [n_cl hk] at q3; rw [q3]
        · subst w
          unfold sdA at hP
          have ne : nI (sdN v s i) ≠ -1 := n_ne1 (by omega)
          have hF := e2 ne
          rw [n_cl (by omega), if_pos ⟨h2, rfl, rfl⟩] at hF
          rw [if_neg (by omega), if_neg ne, if_neg (nI_pos (by omega)), n_cl (by omega), sdF_mono (i := i + 1) (by omega) (vN v) (by omega), hF, if_pos (by omega)] at hP
          exact hP

