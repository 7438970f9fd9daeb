/-! ===== the reference's hasSign ===== -/
theorem d_X12_hasSign_0 : decode cX12_hasSign 0 = .ok (.aload_n 0, 1) := by decide +kernel
theorem d_X12_hasSign_1 : decode cX12_hasSign 1 = .ok (.getfield 80, 3) := by decide +kernel
theorem d_X12_hasSign_4 : decode cX12_hasSign 4 = .ok (.iload_n 1, 1) := by decide +kernel
theorem d_X12_hasSign_5 : decode cX12_hasSign 5 = .ok (.iaload, 1) := by decide +kernel
theorem d_X12_hasSign_6 : decode cX12_hasSign 6 = .ok (.aload_n 0, 1) := by decide +kernel
theorem d_X12_hasSign_7 : decode cX12_hasSign 7 = .ok (.getfield 80, 3) := by decide +kernel
theorem d_X12_hasSign_10 : decode cX12_hasSign 10 = .ok (.iload_n 1, 1) := by decide +kernel
theorem d_X12_hasSign_11 : decode cX12_hasSign 11 = .ok (.iconst 1, 1) := by decide +kernel
theorem d_X12_hasSign_12 : decode cX12_hasSign 12 = .ok (.iadd, 1) := by decide +kernel
theorem d_X12_hasSign_13 : decode cX12_hasSign 13 = .ok (.iaload, 1) := by decide +kernel
theorem d_X12_hasSign_14 : decode cX12_hasSign 14 = .ok (.if_icmp .ge 24, 3) := by decide +kernel
theorem d_X12_hasSign_17 : decode cX12_hasSign 17 = .ok (.aload_n 0, 1) := by decide +kernel
theorem d_X12_hasSign_18 : decode cX12_hasSign 18 = .ok (.getfield 84, 3) := by decide +kernel
theorem d_X12_hasSign_21 : decode cX12_hasSign 21 = .ok (.aload_n 0, 1) := by decide +kernel
theorem d_X12_hasSign_22 : decode cX12_hasSign 22 = .ok (.getfield 80, 3) := by decide +kernel
theorem d_X12_hasSign_25 : decode cX12_hasSign 25 = .ok (.iload_n 1, 1) := by decide +kernel
theorem d_X12_hasSign_26 : decode cX12_hasSign 26 = .ok (.iaload, 1) := by decide +kernel
theorem d_X12_hasSign_27 : decode cX12_hasSign 27 = .ok (.iaload, 1) := by decide +kernel
theorem d_X12_hasSign_28 : decode cX12_hasSign 28 = .ok (.sipush 512, 3) := by decide +kernel
theorem d_X12_hasSign_31 : decode cX12_hasSign 31 = .ok (.if_icmp .ge 7, 3) := by decide +kernel
theorem d_X12_hasSign_34 : decode cX12_hasSign 34 = .ok (.iconst 1, 1) := by decide +kernel
theorem d_X12_hasSign_35 : decode cX12_hasSign 35 = .ok (.goto 4, 3) := by decide +kernel
theorem d_X12_hasSign_38 : decode cX12_hasSign 38 = .ok (.iconst 0, 1) := by decide +kernel
theorem d_X12_hasSign_39 : decode cX12_hasSign 39 = .ok (.ireturn, 1) := by decide +kernel
def k_X12_hasSign_39 (P : xP) : xK := x_zret P
set_option maxRecDepth 20000 in
theorem t_X12_hasSign_39 {p : Program} {l : Launch} {e : Env} {s : State} {m : MethodId} {args : Array Value} {below : List Frame} {meth : Method} {c : Code} {g : xG} (X : xX p s m args c meth cX12_hasSign RX12 2 g) (hr : meth.sig.returnType = (some .boolean)) {P : xP} : xAt p l e { frames := 0, cells := 0, slots := 0, locals := 0 } s m args below meth c g 2 xFT xN 0 0 (MQ below (xQc g xFT xN P) args s 0 0 (xFr g)) (k_X12_hasSign_39 P) 39 := by
  unfold k_X12_hasSign_39
  exact r_zret (pc := 39) X hr d_X12_hasSign_39
def k_X12_hasSign_38 (P : xP) : xK := x_push (.int 0) ((k_X12_hasSign_39 P))
set_option maxRecDepth 20000 in
theorem t_X12_hasSign_38 {p : Program} {l : Launch} {e : Env} {s : State} {m : MethodId} {args : Array Value} {below : List Frame} {meth : Method} {c : Code} {g : xG} (X : xX p s m args c meth cX12_hasSign RX12 2 g) (hr : meth.sig.returnType = (some .boolean)) {P : xP} : xAt p l e { frames := 0, cells := 0, slots := 0, locals := 0 } s m args below meth c g 2 xFT xN 0 0 (MQ below (xQc g xFT xN P) args s 0 0 (xFr g)) (k_X12_hasSign_38 P) 38 := by
  unfold k_X12_hasSign_38
  refine r_iconst (pc := 38) X d_X12_hasSign_38 (by decide +kernel) ?_
  exact t_X12_hasSign_39 X hr
def k_X12_hasSign_0 (P : xP) : xK := x_aload 0 (y_getF 180 198 (x_iload 1 (y_iald 198 81 (x_aload 0 (y_getF 180 198 (x_iload 1 (x_push (.int 1) (x_iadd (y_iald 198 81 (x_icmp_ge ((k_X12_hasSign_38 P)) (x_aload 0 (y_getF 180 199 (x_aload 0 (y_getF 180 198 (x_iload 1 (y_iald 198 81 (y_iald 199 76800 (x_push (.int 512) (x_icmp_ge ((k_X12_hasSign_38 P)) (x_push (.int 1) ((k_X12_hasSign_39 P))))))))))))))))))))))
set_option maxRecDepth 20000 in
theorem t_X12_hasSign_0 {p : Program} {l : Launch} {e : Env} {s : State} {m : MethodId} {args : Array Value} {below : List Frame} {meth : Method} {c : Code} {g : xG} (X : xX p s m args c meth cX12_hasSign RX12 2 g) (hr : meth.sig.returnType = (some .boolean)) {P : xP} : xAt p l e { frames := 0, cells := 0, slots := 0, locals := 0 } s m args below meth c g 2 xFT xN 0 0 (MQ below (xQc g xFT xN P) args s 0 0 (xFr g)) (k_X12_hasSign_0 P) 0 := by
  unfold k_X12_hasSign_0
  refine r_aload_n (pc := 0) X d_X12_hasSign_0 fn0 ?_
  refine s_getF (pc := 1) (ci := 12) (k := 37) X xok12 (by decide +kernel) ob_180 trivial ly_180_37 (by decide +kernel) fl_RX12_80 d_X12_hasSign_1 ?_
  refine r_iload_n (pc := 4) X d_X12_hasSign_4 fn1 ?_
  refine s_iald (pc := 5) X tn_198 ln_198 d_X12_hasSign_5 ?_
  refine r_aload_n (pc := 6) X d_X12_hasSign_6 fn0 ?_
  refine s_getF (pc := 7) (ci := 12) (k := 37) X xok12 (by decide +kernel) ob_180 trivial ly_180_37 (by decide +kernel) fl_RX12_80 d_X12_hasSign_7 ?_
  refine r_iload_n (pc := 10) X d_X12_hasSign_10 fn1 ?_
  refine r_iconst (pc := 11) X d_X12_hasSign_11 (by decide +kernel) ?_
  refine r_iadd (pc := 12) X d_X12_hasSign_12 ?_
  refine s_iald (pc := 13) X tn_198 ln_198 d_X12_hasSign_13 ?_
  refine r_icmp_ge (pc := 14) (tgt := 38) X d_X12_hasSign_14 (by decide +kernel) ?_ ?_
  · exact t_X12_hasSign_38 X hr
  · refine r_aload_n (pc := 17) X d_X12_hasSign_17 fn0 ?_
    refine s_getF (pc := 18) (ci := 12) (k := 38) X xok12 (by decide +kernel) ob_180 trivial ly_180_38 (by decide +kernel) fl_RX12_84 d_X12_hasSign_18 ?_
    refine r_aload_n (pc := 21) X d_X12_hasSign_21 fn0 ?_
    refine s_getF (pc := 22) (ci := 12) (k := 37) X xok12 (by decide +kernel) ob_180 trivial ly_180_37 (by decide +kernel) fl_RX12_80 d_X12_hasSign_22 ?_
    refine r_iload_n (pc := 25) X d_X12_hasSign_25 fn1 ?_
    refine s_iald (pc := 26) X tn_198 ln_198 d_X12_hasSign_26 ?_
    refine s_iald (pc := 27) X tn_199 ln_199 d_X12_hasSign_27 ?_
    refine r_sipush (pc := 28) X d_X12_hasSign_28 (by decide +kernel) ?_
    refine r_icmp_ge (pc := 31) (tgt := 38) X d_X12_hasSign_31 (by decide +kernel) ?_ ?_
    · exact t_X12_hasSign_38 X hr
    · refine r_iconst (pc := 34) X d_X12_hasSign_34 (by decide +kernel) ?_
      refine r_goto (pc := 35) (tgt := 39) X d_X12_hasSign_35 (by decide +kernel) ?_
      exact t_X12_hasSign_39 X hr
def f_X12_hasSign (a0 : Nat) (a1 : Int32) (A : xH) (P : xP) : Prop := k_X12_hasSign_0 P [some (.ref a0), some (.int a1)] [] A
set_option maxRecDepth 20000 in
theorem con_X12_hasSign (l : Launch) : xCon l yX12_hasSign cX12_hasSign 2 (some .boolean) 0 0 xN xN 0 xFT xFT (w_RI f_X12_hasSign) :=
  xc_RI (plainFor_of_name pn_RX12) (by decide +kernel) (fun p e s m args below meth c g a0 a1 A P h X hr _ => ⟨_, h, t_X12_hasSign_0 X hr⟩)
def hsV (v : xV) (p : Nat) : Prop := ∃ s, s < 4 ∧ hsT (stT v) p s
theorem hs_tY {v : xV} {p : Nat} (hw : wfg v) (hc : wfc v) : hsV v p ↔ ∃ y, y < 512 ∧ tY v p y = true := by
  constructor
  · rintro ⟨s, h4, q, hq, h⟩
    refine ⟨s * 128 + q, by omega, ?_⟩
    have := tY_tX (p := p) hw hc (show s < 24 by omega) hq
    rw [sc_s h4] at this
    rw [this]
    unfold tX
    rw [bt_iff, show (s * 128 + q) / 128 = s by omega, show (s * 128 + q) % 128 = q by omega]
    exact h
  · rintro ⟨y, h1, h2⟩
    have e := tY_tX (p := p) (s := y / 128) (q := y % 128) hw hc (by omega) (by omega)
    rw [sc_s (by omega), show y / 128 * 128 + y % 128 = y by omega, h2] at e
    have e2 := e.symm
    unfold tX at e2
    rw [bt_iff] at e2
    exact ⟨y / 128, by omega, y % 128, by omega, e2⟩
theorem hasSign_U {A : xH} {P : xP} {v : xV} {p : Nat} (hw : wfg v) (hc : wfc v) (h80 : (plL v).length ≤ 80) (hd : plDU A v) (hp : p < (plL v).length) (hP : P (some (.int (bI (bt (hsV v p))))) A) : f_X12_hasSign 180 (nI p) A P := by
  obtain ⟨hl, hf, hs⟩ := hd.2 h80
  have b1 := bsY_le hw hc h80 p
  have b2 : bsY v (p + 1) = bsY v p + cb (tY v p) 5376 := rfl
  have t4 := tY_le (p := p) hw hc h80
  unfold f_X12_hasSign
  simp (disch := omega) only [k_X12_hasSign_0, k_X12_hasSign_38, k_X12_hasSign_39, x_aload, x_iadd, x_icmp_ge, x_iload, x_push, x_zret, y_getF, y_iald, xFT, xbool0, xbool1, Nat.reduceAdd, Nat.zero_add, xgl_0, xgl_s, xgl_n, xst_0, xst_1n, xst_1i, xst_1r, xst_1l, xst_s, set_0, set_s, true_and, and_true, xres, xcat_nil, xcat_i, xcat_r, xcat_l, Nat.add_zero, xble0, xble1, xble2, xble3, xble4, xble5, xble6, xble7, xble8, pk_mul, nI_add, nI_1, nI_leI, nI_ltI, nI_eq, n_in, n_cl, z_eq, z_lt, z_le, z_gt, z_ge, z_qe, o_eq, o_lt, o_le, o_gt, o_ge, vp0, vp1, cl0, cl1, n_sub, n_sub1, n_pm1, n_a0, n_0a, ofn, lN0, Nat.reduceLT, Nat.reduceLeDiff, Nat.reduceMul, Nat.reduceSub, Nat.reduceEqDiff, ne_eq, true_implies, false_implies, not_true_eq_false, not_false_eq_true, and_self, and_true, true_and, and_false, false_and, implies_true, if_true, if_false, i00, i10, i01, i11, ob_0, ob_1, tn_2, ln_2, ob_3, tn_4, ln_4, ob_5, tn_6, ln_6, tn_7, ln_7, ob_8, tn_9, ln_9, tn_10, ln_10, tn_11, ln_11, tn_12, ln_12, tn_13, ln_13, tn_14, ln_14, tn_15, ln_15, tn_16, ln_16, tn_17, ln_17, ob_18, tn_19, ln_19, tn_20, ln_20, tn_21, ln_21, tn_22, ln_22, tn_23, ln_23, tn_24, ln_24, tn_25, ln_25, tn_26, ln_26, tn_27, ln_27, ob_28, tn_29, ln_29, tn_30, ln_30, ob_31, tn_32, ln_32, tn_33, ln_33, ob_34, ob_35, tn_36, ln_36, tn_37, ln_37, tn_38, ln_38, ob_39, tn_40, ln_40, tn_41, ln_41, tn_42, ln_42, tn_43, ln_43, tn_44, ln_44, tn_45, ln_45, tn_46, ln_46, tn_47, ln_47, tn_48, ln_48, tn_49, ln_49, tn_50, ln_50, tn_51, ln_51, ob_52, tn_53, ln_53, tn_54, ln_54, tn_55, ln_55, tn_56, ln_56, ob_57, tn_58, ln_58, tn_59, ln_59, tn_60, ln_60, tn_61, ln_61, tn_62, ln_62, tn_63, ln_63, tn_64, ln_64, tn_65, ln_65, ob_66, tn_67, ln_67, tn_68, ln_68, tn_69, ln_69, tn_70, ln_70, tn_71, ln_71, tn_72, ln_72, tn_73, ln_73, ob_74, tn_75, ln_75, tn_76, ln_76, tn_77, ln_77, tn_78, ln_78, tn_79, ln_79, tn_80, ln_80, tn_81, ln_81, tn_82, ln_82, tn_83, ln_83, ob_84, tn_85, ln_85, tn_86, ln_86, tn_87, ln_87, tn_88, ln_88, tn_89, ln_89, tn_90, ln_90, tn_91, ln_91, tn_92, ln_92, tn_93, ln_93, ob_94, tn_95, ln_95, tn_96, ln_96, tn_97, ln_97, tn_98, ln_98, tn_99, ln_99, tn_100, ln_100, tn_101, ln_101, tn_102, ln_102, tn_103, ln_103, ob_104, tn_105, ln_105, tn_106, ln_106, tn_107, ln_107, tn_108, ln_108, tn_109, ln_109, tn_110, ln_110, tn_111, ln_111, tn_112, ln_112, tn_113, ln_113, ob_114, tn_115, ln_115, tn_116, ln_116, tn_117, ln_117, tn_118, ln_118, tn_119, ln_119, tn_120, ln_120, tn_121, ln_121, tn_122, ln_122, tn_123, ln_123, ob_124, tn_125, ln_125, tn_126, ln_126, tn_127, ln_127, tn_128, ln_128, tn_129, ln_129, tn_130, ln_130, tn_131, ln_131, tn_132, ln_132, tn_133, ln_133, ob_134, tn_135, ln_135, tn_136, ln_136, tn_137, ln_137, tn_138, ln_138, tn_139, ln_139, tn_140, ln_140, tn_141, ln_141, tn_142, ln_142, tn_143, ln_143, ob_144, tn_145, ln_145, tn_146, ln_146, tn_147, ln_147, tn_148, ln_148, tn_149, ln_149, tn_150, ln_150, tn_151, ln_151, tn_152, ln_152, tn_153, ln_153, ob_154, tn_155, ln_155, tn_156, ln_156, tn_157, ln_157, tn_158, ln_158, tn_159, ln_159, tn_160, ln_160, tn_161, ln_161, tn_162, ln_162, tn_163, ln_163, ob_164, tn_165, ln_165, tn_166, ln_166, ob_167, tn_168, ln_168, tn_169, ln_169, tn_170, ln_170, tn_171, ln_171, tn_172, ln_172, tn_173, ln_173, tn_174, ln_174, tn_175, ln_175, tn_176, ln_176, ob_177, tn_178, ln_178, tn_179, ln_179, ob_180, tn_181, ln_181, tn_182, ln_182, tn_183, ln_183, tn_184, ln_184, tn_185, ln_185, tn_186, ln_186, tn_187, ln_187, tn_188, ln_188, tn_189, ln_189, tn_190, ln_190, tn_191, ln_191, tn_192, ln_192, tn_193, ln_193, tn_194, ln_194, tn_195, ln_195, tn_196, ln_196, tn_197, ln_197, tn_198, ln_198, tn_199, ln_199, tn_200, ln_200, tn_201, ln_201, tn_202, ln_202, tn_203, ln_203, tn_204, ln_204, tn_205, ln_205, tn_206, ln_206, tn_207, ln_207, tn_208, ln_208, tn_209, ln_209, tn_210, ln_210, tn_211, ln_211, tn_212, ln_212, tn_213, ln_213, tn_214, ln_214, tn_215, ln_215, tn_216, ln_216, tn_217, ln_217, tn_218, ln_218, tn_219, ln_219, tn_220, ln_220, tn_221, ln_221, tn_222, ln_222, tn_223, ln_223, tn_224, ln_224, tn_225, ln_225, tn_226, ln_226, tn_227, ln_227, tn_228, ln_228, tn_229, ln_229, tn_230, ln_230, lx2, lx3, lx4, lx5, lx6, lx7, lx8, lx9, lx10, lx14, lx15, lx16, lx18, lx20, lx24, lx25, lx27, lx32, lx36, lx40, lx41, lx42, lx43, lx45, lx48, lx52, lx54, lx56, lx57, lx58, lx60, lx61, lx62, lx63, lx64, lx66, lx69, lx73, lx80, lx81, lx84, lx85, lx87, lx94, lx96, lx97, lx120, lx128, lx135, lx160, lx162, lx163, lx165, lx200, lx232, lx242, lx243, lx255, lx256, lx320, lx325, lx400, lx405, lx464, lx512, lx600, lx640, lx752, lx900, lx940, lx1000, lx1024, lx1764, lx3360, lx3840, lx5000, lx6400, lx9050, lx9998, lx9999, lx10000, lx25600, lx76800, lx99999, hf p (by omega), hf (p + 1) (by omega), b2]
  refine ⟨by omega, by omega, fun a => ?_, fun a => ?_⟩
  · have z : ¬ hsV v p := fun w => by
      obtain ⟨y, y1, y2⟩ := (hs_tY hw hc).mp w
      have := cb_zero (f := tY v p) (n := 5376) (by omega) y (by omega)
      rw [y2] at this; cases this
    rw [bt_f z] at hP
    exact hP
  · obtain ⟨y, y1, y2, y3⟩ := cb_sel (f := tY v p) (k := 0) (n := 5376) (by omega)
    have hst := hs p hp y y1 y2
    rw [y3, Nat.add_zero] at hst
    rw [hst, nI_leI (by omega) (by omega)]
    refine ⟨by omega, by omega, fun w => ?_, fun w => ?_⟩
    · have z : ¬ hsV v p := fun w2 => by
        obtain ⟨y', z1, z2⟩ := (hs_tY hw hc).mp w2
        have := cb_mono (tY v p) (show y' + 1 ≤ y by omega)
        rw [cb_s, z2] at this
        simp only [Bool.toNat_true] at this
        omega
      rw [bt_f z] at hP
      exact hP
    · have z : hsV v p := (hs_tY hw hc).mpr ⟨y, by omega, y2⟩
      rw [bt_t z] at hP
      exact hP

