theorem isH_sl {A : xH} {v : xV} {k : Nat} {w : Int64} (h : isH A v) (hk : k < 9) : isH (xsl A 186 k w) v := by
  obtain ⟨b, ⟨n1, n2, n3, n4⟩, hR, hd, hrow⟩ := h
  exact ⟨b, ⟨n1, n2, fun j hj => by rw [xl_sl, if_neg (by omega)]; exact n3 j hj, fun j hj => by rw [xl_sl, if_neg (by omega)]; exact n4 j hj⟩, hR, hd, hrow⟩
def g19 (A : xH) (P : xP) : xM → xK := fun μ L st B => ∃ f n i, GU1 A P (gram f n 900 941 0 vz 0) ∧ GU2 A P (gram f n 900 941 0 vz 0) ∧ i ≤ 54 ∧ isV B f n ∧ xi B 180 4 = nI 900 ∧ xi B 180 3 = nI 0 ∧ resU B ∧ xi B 180 1 = 0 ∧ xi B 180 15 = 0 ∧ xi B 180 19 = 0 ∧ jF A B ∧ (∀ j, j < i → xi B 183 j = 0) ∧ st = [] ∧ L = [some (.ref 180), some (.int (nI i))] ∧ μ = (54 - i, 0, 0)
def g42 (A : xH) (P : xP) : xM → xK := fun μ L st B => ∃ f n v p k x, GU1 A P (gram f n 900 941 0 vz 0) ∧ GU2 A P (gram f n 900 941 0 vz 0) ∧ gram f n 900 941 0 vz 0 = gram f n 900 (941 - k) p v k ∧ k ≤ p ∧ uT B f n 900 p ∧ isH B v ∧ vI v ∧ jF A B ∧ xi B 180 1 = 0 ∧ xi B 180 15 = 0 ∧ xi B 180 19 = nI k ∧ st = [] ∧ L = [some (.ref 180), some (.int x)] ∧ μ = (n - p, 0, 0)
def g87 (A : xH) (P : xP) : xM → xK := fun μ L st B => ∃ v k i, GU2 A P (.inr (v, k)) ∧ isH B v ∧ vI v ∧ jS A B ∧ xi B 180 1 = 0 ∧ xi B 180 15 = 0 ∧ xi B 180 19 = nI k ∧ i ≤ 232 ∧ (∀ j, j < i → xi B 182 j = if j < 54 then xi B 183 j else 0) ∧ st = [] ∧ L = [some (.ref 180), some (.int (nI i))] ∧ μ = (232 - i, 0, 0)
def g124 (A : xH) (P : xP) : xM → xK := fun μ L st B => ∃ v k i, GU2 A P (.inr (v, k)) ∧ isH B v ∧ vI v ∧ jS A B ∧ xi B 180 1 = 0 ∧ xi B 180 15 = 0 ∧ xi B 180 19 = nI k ∧ i ≤ 9 ∧ (∀ j, j < 232 → xi B 182 j = if j < 54 then xi B 183 j else 0) ∧ (∀ j, j < i → xl B 186 j = xl B 186 (9 + j)) ∧ st = [] ∧ L = [some (.ref 180), some (.int (nI i))] ∧ μ = (9 - i, 0, 0)
theorem mk_3 {t : Nat × Nat × Nat × Nat} {c : Nat} (h : isMk t c = true) : t.1 = 3 := by
  unfold isMk at h
  exact (of_decide_eq_true h).1
theorem sg_U {A : xH} {P : xP} {f : Nat → Nat} {n lim p : Nat} (h : uT A f n lim p)
    (h1 : isMk (tk f n lim p) 59 = false → P (some (.int 0)) (fltU A 1 (tk f n lim p).2.1))
    (h2 : isMk (tk f n lim p) 59 = true → ∀ B, uS A B → uT B f n lim (tk f n lim p).2.2.1 → P (some (.int 1)) B) : f_X12_sign 180 59 A P := by
  have ho := uT_ok h
  have ht := h.2.2.2.2.2
  unfold f_X12_sign
  simp only [k_X12_sign_0, w_R, w_RI, x_aload, x_if_ne, x_iload, x_push, x_zret, y_cv0, y_cv1, xFT, xbool0, xbool1, Nat.reduceAdd, Nat.zero_add, xgl_0, xgl_s, xgl_n, xst_0, xst_1n, xst_1i, xst_1r, xst_1l, xst_s, set_0, set_s, true_and, and_true, xres, xcat_nil, xcat_i, xcat_r, xcat_l, Nat.add_zero, xble0, xble1, xble2, xble3, xble4, xble5, xble6, xble7, xble8, sign_L 59 ht ho (by decide), bad_L 1 ht, bI_t, ne_eq]
  refine ⟨fun q => ?_, fun q => h1 q⟩
  have q2 : isMk (tk f n lim p) 59 = true := by simpa using q
  refine next_U h (by rw [mk_3 q2]; decide) fun B hS hB => ?_
  simp only [k_X12_sign_0, w_R, w_RI, x_aload, x_if_ne, x_iload, x_push, x_zret, y_cv0, y_cv1, xFT, xbool0, xbool1, Nat.reduceAdd, Nat.zero_add, xgl_0, xgl_s, xgl_n, xst_0, xst_1n, xst_1i, xst_1r, xst_1l, xst_s, set_0, set_s, true_and, and_true, xres, xcat_nil, xcat_i, xcat_r, xcat_l, Nat.add_zero, xble0, xble1, xble2, xble3, xble4, xble5, xble6, xble7, xble8]
  exact h2 q2 B hS hB
theorem uT_lines {A : xH} {f : Nat → Nat} {n lim p : Nat} {x : Int32} (h : uT A f n lim p) : uT (xsi A 180 19 x) f n lim p := by
  obtain ⟨⟨h1, h2, h3⟩, h4, h5, h6, h7, t1, t2, t3, t4, t5⟩ := h
  refine ⟨⟨?_, h2, fun j hj => ?_⟩, ?_, h5, h6, h7, ?_, ?_, fun q => ?_, t4, fun q => ?_⟩
  · rw [si_ne (by omega)]; exact h1
  · rw [si_ne (by omega)]; exact h3 j hj
  · rw [si_ne (by omega)]; exact h4
  · rw [si_ne (by omega)]; exact t1
  · rw [si_ne (by omega)]; exact t2
  · rw [si_ne (by omega)]; exact t3 q
  · rw [si_ne (by omega)]; exact t5 q
theorem con_X12_grammar (l : Launch) : xCon l yX12_grammar cX12_grammar 2 (some .int) 4 94 xN xN 0 xFT xFT (w_R f_X12_grammar) := by
  refine m_X12_grammar (I19 := fun q A P => g19 A P) (I42 := fun q A P => g42 A P) (I87 := fun q A P => g87 A P) (I124 := fun q A P => g124 A P) ?_ ?_ ?_ ?_ ?_
  · rintro q A P ⟨rfl, f, n, hU, hres, h1, h2⟩
    simp only [k_X12_grammar_0, k_X12_grammar_19, k_X12_grammar_42, k_X12_grammar_87, k_X12_grammar_124, k_X12_grammar_65, k_X12_grammar_115, f_X12_alone, f_X12_taken, w_R, w_RI, x_aload, x_dup, x_iadd, x_iast, x_icmp_ge, x_if_eq, x_if_ne, x_iinc, x_iload, x_iret, x_istore, x_isub, x_push, y_cv0, y_cv1, y_getF, y_getI, y_iald, y_iast, y_lald, y_last, y_putI, xFT, xbool0, xbool1, Nat.reduceAdd, Nat.zero_add, xgl_0, xgl_s, xgl_n, xst_0, xst_1n, xst_1i, xst_1r, xst_1l, xst_s, set_0, set_s, true_and, and_true, xres, xcat_nil, xcat_i, xcat_r, xcat_l, Nat.add_zero, xble0, xble1, xble2, xble3, xble4, xble5, xble6, xble7, xble8, k_X12_taken_0, x_aload, x_iload, x_push, x_vret, y_getI, y_putI, xFT, xbool0, xbool1, Nat.reduceAdd, Nat.zero_add, xgl_0, xgl_s, xgl_n, xst_0, xst_1n, xst_1i, xst_1r, xst_1l, xst_s, set_0, set_s, true_and, and_true, xres, xcat_nil, xcat_i, xcat_r, xcat_l, Nat.add_zero, xble0, xble1, xble2, xble3, xble4, xble5, xble6, xble7, xble8]
    refine xE0 (54, 0, 0) ⟨f, n, 0, h1, h2, by omega, ⟨?_, hU.2.1, fun j hj => ?_⟩, ?_, ?_, hres, ?_, ?_, si_eq, ?_, fun j hj => by omega, rfl, rfl, rfl⟩
    · rw [si_ne (by omega), si_ne (by omega), si_ne (by omega), si_ne (by omega), si_ne (by omega), si_eq]; exact hU.1
    · rw [si_ne (by omega), si_ne (by omega), si_ne (by omega), si_ne (by omega), si_ne (by omega), si_ne (by omega)]; exact hU.2.2 j hj
    · rw [si_ne (by omega), si_ne (by omega), si_eq]; rfl
    · rw [si_ne (by omega), si_ne (by omega), si_ne (by omega), si_eq]; rfl
    · rw [si_ne (by omega), si_ne (by omega), si_ne (by omega), si_ne (by omega), si_eq]
    · rw [si_ne (by omega), si_eq]
    · exact jF_si (jF_si (jF_si (jF_si (jF_si (jF_si jF_rf (by omega)) (by omega)) (by omega)) (by omega)) (by omega)) (by omega)
  · rintro q A P - μ L st B ⟨f, n, i, h1, h2, hi, hV, h4, h3, hres, h01, h15, h19, hF, hz, rfl, rfl, rfl⟩
    simp only [k_X12_grammar_0, k_X12_grammar_19, k_X12_grammar_42, k_X12_grammar_87, k_X12_grammar_124, k_X12_grammar_65, k_X12_grammar_115, f_X12_alone, f_X12_taken, w_R, w_RI, x_aload, x_dup, x_iadd, x_iast, x_icmp_ge, x_if_eq, x_if_ne, x_iinc, x_iload, x_iret, x_istore, x_isub, x_push, y_cv0, y_cv1, y_getF, y_getI, y_iald, y_iast, y_lald, y_last, y_putI, xFT, xbool0, xbool1, Nat.reduceAdd, Nat.zero_add, xgl_0, xgl_s, xgl_n, xst_0, xst_1n, xst_1i, xst_1r, xst_1l, xst_s, set_0, set_s, true_and, and_true, xres, xcat_nil, xcat_i, xcat_r, xcat_l, Nat.add_zero, xble0, xble1, xble2, xble3, xble4, xble5, xble6, xble7, xble8, c_ge 54 (c := i) (by omega) (by decide), n_cl (n := i) (by omega), nI_1]
    refine ⟨fun a => ⟨rfl, f, n, 900, 0, hV, h4, by decide, Nat.zero_le _, h3, fun D hS ht => ?_⟩, fun a => ⟨(n_in (by omega) (by omega)).mpr (by omega), xB1 (b := 54 - (i + 1)) (by omega) ⟨f, n, i + 1, h1, h2, by omega, ⟨?_, hV.2.1, fun j hj => ?_⟩, ?_, ?_, hres, ?_, ?_, ?_, jF_si hF (by omega), fun j hj => ?_, rfl, rfl, rfl⟩⟩⟩
    · have e3 : ∀ j, j < 54 → xi D 183 j = 0 := fun j hj => (xoff_i hS.1 (by omega)).trans (hz j (by omega))
      refine xE0 (n - 0, 0, 0) ⟨f, n, vz, 0, 0, _, h1, h2, rfl, by omega, ⟨isV_uS hV hS, ?_, by decide, Nat.zero_le _, fun k hk => (xoff_l hS.1 (by omega)).trans (hres k hk), ht⟩, ⟨⟨e3 0 (by omega), e3 1 (by omega), e3 2 (by omega), e3 3 (by omega)⟩, ⟨Nat.zero_le _, Nat.zero_le _, fun j hj => absurd hj (Nat.not_lt_zero j), fun j hj => absurd hj (Nat.not_lt_zero j)⟩, Nat.zero_le _, fun i j hi => absurd hi (Nat.not_lt_zero i), fun r hr => absurd hr (Nat.not_lt_zero r)⟩, ⟨rfl, fun _ => rfl⟩, jF_tr hF (jF_kS (kS_uS hS)), ?_, ?_, ?_, rfl, rfl, rfl⟩
      · rw [hS.2.1 4 (by omega) (by omega) (by omega) (by omega) (by omega)]; exact h4
      · rw [hS.2.1 1 (by omega) (by omega) (by omega) (by omega) (by omega)]; exact h01
      · rw [hS.2.1 15 (by omega) (by omega) (by omega) (by omega) (by omega)]; exact h15
      · rw [hS.2.1 19 (by omega) (by omega) (by omega) (by omega) (by omega)]; exact h19
    · rw [si_ne (by omega)]; exact hV.1
    · rw [si_ne (by omega)]; exact hV.2.2 j hj
    · rw [si_ne (by omega)]; exact h4
    · rw [si_ne (by omega)]; exact h3
    · rw [si_ne (by omega)]; exact h01
    · rw [si_ne (by omega)]; exact h15
    · rw [si_ne (by omega)]; exact h19
    · by_cases e : j < i
      · rw [si_ne (by omega)]; exact hz j e
      · rw [show j = i by omega, si_eq]
  · rintro q A P - μ L st B ⟨f, n, v, p, k, x, h1, h2, he, hk, hu, hH, hI, hF, h01, h15, h19, rfl, rfl, rfl⟩
    have ht := hu.2.2.2.2.2
    have ho := uT_ok hu
    have h9 := hu.1.2.1
    have hpn := hu.2.2.2.1
    have hk2 : 941 - k = (940 - k) + 1 := by omega
    rw [hk2, gram_s (g := 940 - k), gln_lnU hH.2.1.1 hH.2.1.2.1] at he
    simp only [k_X12_grammar_0, k_X12_grammar_19, k_X12_grammar_42, k_X12_grammar_87, k_X12_grammar_124, k_X12_grammar_65, k_X12_grammar_115, f_X12_alone, f_X12_taken, w_R, w_RI, x_aload, x_dup, x_iadd, x_iast, x_icmp_ge, x_if_eq, x_if_ne, x_iinc, x_iload, x_iret, x_istore, x_isub, x_push, y_cv0, y_cv1, y_getF, y_getI, y_iald, y_iast, y_lald, y_last, y_putI, xFT, xbool0, xbool1, Nat.reduceAdd, Nat.zero_add, xgl_0, xgl_s, xgl_n, xst_0, xst_1n, xst_1i, xst_1r, xst_1l, xst_s, set_0, set_s, true_and, and_true, xres, xcat_nil, xcat_i, xcat_r, xcat_l, Nat.add_zero, xble0, xble1, xble2, xble3, xble4, xble5, xble6, xble7, xble8, ht.1, c_eq 0 (c := (tk f n 900 p).1) (by have := ho.1; omega) (by decide), f_X12_readLine]
    refine ⟨fun a => ?_, fun a => ⟨f, n, 900, p, v, hu, hH, fun D e d hl hD => ?_, fun D v' z hl hD h15D hHD huD => ?_⟩⟩
    · rw [if_pos a] at he
      rw [he] at h2
      exact xE0 (232, 0, 0) ⟨v, k, 0, h2, hH, hI, jS_jF hF, h01, h15, h19, by omega, fun j hj => by omega, rfl, rfl, rfl⟩
    · rw [if_neg a, hl] at he
      simp only [k_X12_grammar_0, k_X12_grammar_19, k_X12_grammar_42, k_X12_grammar_87, k_X12_grammar_124, k_X12_grammar_65, k_X12_grammar_115, f_X12_alone, f_X12_taken, w_R, w_RI, x_aload, x_dup, x_iadd, x_iast, x_icmp_ge, x_if_eq, x_if_ne, x_iinc, x_iload, x_iret, x_istore, x_isub, x_push, y_cv0, y_cv1, y_getF, y_getI, y_iald, y_iast, y_lald, y_last, y_putI, xFT, xbool0, xbool1, Nat.reduceAdd, Nat.zero_add, xgl_0, xgl_s, xgl_n, xst_0, xst_1n, xst_1i, xst_1r, xst_1l, xst_s, set_0, set_s, true_and, and_true, xres, xcat_nil, xcat_i, xcat_r, xcat_l, Nat.add_zero, xble0, xble1, xble2, xble3, xble4, xble5, xble6, xble7, xble8, i00, not_true_eq_false, true_implies, false_implies]
      have e16 : xi (fltU D e d) 180 16 = nI d := si_eq
      rw [e16]
      refine h1 _ e d he (jF_tr hF (jF_tr (jF_kS hD) (jF_si (jF_si jF_rf (by omega)) (by omega)))) ?_ ?_
      · show xi (xsi (xsi D 180 15 (nI e)) 180 16 (nI d)) 180 1 = 0
        rw [si_ne (by omega), si_ne (by omega), hD.2.2.1 1 (by omega) (by omega) (by omega) (by omega) (by omega) (by omega) (by omega) (by omega)]; exact h01
      · show xi (xsi (xsi D 180 15 (nI e)) 180 16 (nI d)) 180 15 = nI e
        rw [si_ne (by omega), si_eq]
    · rw [if_neg a, hl] at he
      have d01 : xi D 180 1 = 0 := (hD.2.2.1 1 (by omega) (by omega) (by omega) (by omega) (by omega) (by omega) (by omega) (by omega)).trans h01
      have d19 : xi D 180 19 = nI k := (hD.2.2.1 19 (by omega) (by omega) (by omega) (by omega) (by omega) (by omega) (by omega) (by omega)).trans h19
      simp only [k_X12_grammar_0, k_X12_grammar_19, k_X12_grammar_42, k_X12_grammar_87, k_X12_grammar_124, k_X12_grammar_65, k_X12_grammar_115, f_X12_alone, f_X12_taken, w_R, w_RI, x_aload, x_dup, x_iadd, x_iast, x_icmp_ge, x_if_eq, x_if_ne, x_iinc, x_iload, x_iret, x_istore, x_isub, x_push, y_cv0, y_cv1, y_getF, y_getI, y_iald, y_iast, y_lald, y_last, y_putI, xFT, xbool0, xbool1, Nat.reduceAdd, Nat.zero_add, xgl_0, xgl_s, xgl_n, xst_0, xst_1n, xst_1i, xst_1r, xst_1l, xst_s, set_0, set_s, true_and, and_true, xres, xcat_nil, xcat_i, xcat_r, xcat_l, Nat.add_zero, xble0, xble1, xble2, xble3, xble4, xble5, xble6, xble7, xble8, i10, not_false_eq_true, true_implies, false_implies]
      refine sg_U huD (fun b => ?_) (fun b E hS huE => ?_)
      · simp only [k_X12_grammar_0, k_X12_grammar_19, k_X12_grammar_42, k_X12_grammar_87, k_X12_grammar_124, k_X12_grammar_65, k_X12_grammar_115, f_X12_alone, f_X12_taken, w_R, w_RI, x_aload, x_dup, x_iadd, x_iast, x_icmp_ge, x_if_eq, x_if_ne, x_iinc, x_iload, x_iret, x_istore, x_isub, x_push, y_cv0, y_cv1, y_getF, y_getI, y_iald, y_iast, y_lald, y_last, y_putI, xFT, xbool0, xbool1, Nat.reduceAdd, Nat.zero_add, xgl_0, xgl_s, xgl_n, xst_0, xst_1n, xst_1i, xst_1r, xst_1l, xst_s, set_0, set_s, true_and, and_true, xres, xcat_nil, xcat_i, xcat_r, xcat_l, Nat.add_zero, xble0, xble1, xble2, xble3, xble4, xble5, xble6, xble7, xble8, i00, not_true_eq_false, true_implies, false_implies, ne_eq]
        have he2 : gram f n 900 941 0 vz 0 = .inl (1, (tk f n 900 z).2.1) := by rw [he]; simp only [b, if_true]
        have e16 : xi (fltU D 1 (tk f n 900 z).2.1) 180 16 = nI (tk f n 900 z).2.1 := si_eq
        rw [e16]
        refine h1 _ _ _ he2 (jF_tr hF (jF_tr (jF_kS hD) (jF_si (jF_si jF_rf (by omega)) (by omega)))) ?_ ?_
        · show xi (xsi (xsi D 180 15 _) 180 16 _) 180 1 = 0
          rw [si_ne (by omega), si_ne (by omega)]; exact d01
        · show xi (xsi (xsi D 180 15 (nI 1)) 180 16 _) 180 15 = nI 1
          rw [si_ne (by omega), si_eq]
      · have he2 : gram f n 900 941 0 vz 0 = gram f n 900 (940 - k) (tk f n 900 z).2.2.1 v' (k + 1) := by rw [he]; simp only [b, Bool.true_eq_false, if_false]
        have hz := lnU_ge hpn hl
        have hz2 := tk_next (f := f) (lim := 900) hz.2
        have hz3 := hz2.2.2 (by rw [mk_3 b]; decide) (by rw [mk_3 b]; decide)
        have e19 : xi E 180 19 = nI k := (hS.2.1 19 (by omega) (by omega) (by omega) (by omega) (by omega)).trans d19
        simp only [k_X12_grammar_0, k_X12_grammar_19, k_X12_grammar_42, k_X12_grammar_87, k_X12_grammar_124, k_X12_grammar_65, k_X12_grammar_115, f_X12_alone, f_X12_taken, w_R, w_RI, x_aload, x_dup, x_iadd, x_iast, x_icmp_ge, x_if_eq, x_if_ne, x_iinc, x_iload, x_iret, x_istore, x_isub, x_push, y_cv0, y_cv1, y_getF, y_getI, y_iald, y_iast, y_lald, y_last, y_putI, xFT, xbool0, xbool1, Nat.reduceAdd, Nat.zero_add, xgl_0, xgl_s, xgl_n, xst_0, xst_1n, xst_1i, xst_1r, xst_1l, xst_s, set_0, set_s, true_and, and_true, xres, xcat_nil, xcat_i, xcat_r, xcat_l, Nat.add_zero, xble0, xble1, xble2, xble3, xble4, xble5, xble6, xble7, xble8, i10, not_false_eq_true, true_implies, false_implies, ne_eq, e19, nI_1]
        refine xB1 (b := n - (tk f n 900 z).2.2.1) (by omega) ⟨f, n, v', (tk f n 900 z).2.2.1, k + 1, x, h1, h2, ?_, by omega, uT_lines huE, isH_off hHD (fun j => ?_) (fun j => ?_), lnU_I hI hl, jF_si (jF_tr hF (jF_tr (jF_kS hD) (jF_kS (kS_uS hS)))) (by omega), ?_, ?_, si_eq, rfl, rfl, rfl⟩
        · rw [he2, show 941 - (k + 1) = 940 - k by omega]
        · rw [si_ne (by omega)]; exact xoff_i hS.1 (by omega)
        · exact (xoff_l (c := 186) hS.1 (by omega) : xl E 186 j = xl D 186 j)
        · rw [si_ne (by omega), hS.2.1 1 (by omega) (by omega) (by omega) (by omega) (by omega)]; exact d01
        · rw [si_ne (by omega), hS.2.1 15 (by omega) (by omega) (by omega) (by omega) (by omega), h15D]; exact h15
  · rintro q A P - μ L st B ⟨v, k, i, h2, hH, hI, hF, h01, h15, h19, hi, hs, rfl, rfl, rfl⟩
    simp only [k_X12_grammar_0, k_X12_grammar_19, k_X12_grammar_42, k_X12_grammar_87, k_X12_grammar_124, k_X12_grammar_65, k_X12_grammar_115, f_X12_alone, f_X12_taken, w_R, w_RI, x_aload, x_dup, x_iadd, x_iast, x_icmp_ge, x_if_eq, x_if_ne, x_iinc, x_iload, x_iret, x_istore, x_isub, x_push, y_cv0, y_cv1, y_getF, y_getI, y_iald, y_iast, y_lald, y_last, y_putI, xFT, xbool0, xbool1, Nat.reduceAdd, Nat.zero_add, xgl_0, xgl_s, xgl_n, xst_0, xst_1n, xst_1i, xst_1r, xst_1l, xst_s, set_0, set_s, true_and, and_true, xres, xcat_nil, xcat_i, xcat_r, xcat_l, Nat.add_zero, xble0, xble1, xble2, xble3, xble4, xble5, xble6, xble7, xble8, c_ge 232 (c := i) (by omega) (by decide), c_ge 54 (c := i) (by omega) (by decide), n_cl (n := i) (by omega), nI_1, tn_182, ln_182]
    have hst : ∀ y, y = (if i < 54 then xi B 183 i else 0) → i < 232 → xB (g87 A P) (232 - i, 0, 0) [some (.ref 180), some (.int (nI (i + 1)))] [] (xsi B 182 i y) := fun y hy hlt => by
      refine xB1 (b := 232 - (i + 1)) (by omega) ⟨v, k, i + 1, h2, isH_off hH (fun j => si_ne (by omega)) (fun _ => rfl), hI, jS_si hF (by omega), ?_, ?_, ?_, by omega, fun j hj => ?_, rfl, rfl, rfl⟩
      · rw [si_ne (by omega)]; exact h01
      · rw [si_ne (by omega)]; exact h15
      · rw [si_ne (by omega)]; exact h19
      · rw [show xi (xsi B 182 i y) 183 j = xi B 183 j from si_ne (by omega)]
        by_cases e : j < i
        · rw [si_ne (by omega)]; exact hs j e
        · rw [show j = i by omega, si_eq]; exact hy
    refine ⟨fun a => ?_, fun a => ⟨fun b => ⟨(n_in (by omega) (by omega)).mpr (by omega), hst _ (by rw [if_neg (by omega)]) (by omega)⟩, fun b => ⟨(n_in (by omega) (by omega)).mpr (by omega), (n_in (by omega) (by omega)).mpr (by omega), hst _ (by rw [if_pos (by omega)]) (by omega)⟩⟩⟩
    exact xE0 (9, 0, 0) ⟨v, k, 0, h2, hH, hI, hF, h01, h15, h19, by omega, fun j hj => hs j (by omega), fun j hj => by omega, rfl, rfl, rfl⟩
  · rintro q A P - μ L st B ⟨v, k, i, h2, hH, hI, hF, h01, h15, h19, hi, hs, hn, rfl, rfl, rfl⟩
    simp only [k_X12_grammar_0, k_X12_grammar_19, k_X12_grammar_42, k_X12_grammar_87, k_X12_grammar_124, k_X12_grammar_65, k_X12_grammar_115, f_X12_alone, f_X12_taken, w_R, w_RI, x_aload, x_dup, x_iadd, x_iast, x_icmp_ge, x_if_eq, x_if_ne, x_iinc, x_iload, x_iret, x_istore, x_isub, x_push, y_cv0, y_cv1, y_getF, y_getI, y_iald, y_iast, y_lald, y_last, y_putI, xFT, xbool0, xbool1, Nat.reduceAdd, Nat.zero_add, xgl_0, xgl_s, xgl_n, xst_0, xst_1n, xst_1i, xst_1r, xst_1l, xst_s, set_0, set_s, true_and, and_true, xres, xcat_nil, xcat_i, xcat_r, xcat_l, Nat.add_zero, xble0, xble1, xble2, xble3, xble4, xble5, xble6, xble7, xble8, show (9 : Int32) = nI 9 from rfl, nI_add, n_cl (n := i) (by omega), n_cl (n := 9 + i) (by omega), nI_1, f_X12_alone, nI_leI (a := 9) (b := i) (by omega) (by omega)]
    refine ⟨fun a D hO hc hj => ?_, fun a => ⟨(n_in (by omega) (by omega)).mpr (by omega), (n_in (by omega) (by omega)).mpr (by omega), xB1 (b := 9 - (i + 1)) (by omega) ⟨v, k, i + 1, h2, isH_sl hH (by omega), hI, jS_sl hF, h01, h15, h19, by omega, hs, fun j hj => ?_, rfl, rfl, rfl⟩⟩⟩
    · have hi9 : i = 9 := by omega
      subst hi9
      obtain ⟨⟨b0, b1, b2, b3⟩, ⟨n1, n2, n3, n4⟩, hR, hd, hrow⟩ := hH
      have o180 : ∀ j, j < 25 ∨ 28 < j → xi D 180 j = xi B 180 j := hO.2.2.1
      have eD : ∀ j, j < 54 → xi (xsi D 180 57 0) 182 j = xi B 183 j := fun j hj2 => by
        rw [si_ne (by omega), hj j (by omega), hs j (by omega), if_pos hj2]
      have eL : ∀ j, xl (xsi D 180 57 0) 186 j = xl B 186 j := fun j => by
        show D.2.1 186 j = B.2.1 186 j
        rw [hO.2.1]
      have e19 : xi (xsi D 180 57 0) 180 19 = nI k := by rw [si_ne (by omega), o180 19 (by omega)]; exact h19
      rw [e19]
      refine h2 _ v k rfl (jS_si (jS_oS hF hO) (by omega)) ?_ ?_ si_eq ⟨?_, ?_, ?_, ?_⟩ (fun j a1 a2 => ?_) ⟨⟨(eD 0 (by omega)).trans b0, (eD 1 (by omega)).trans b1, (eD 2 (by omega)).trans b2, ?_⟩, ⟨n1, n2, fun j hj2 => ?_, fun j hj2 => ?_⟩, hR, hd, fun r hr => ⟨(eD _ (by omega)).trans (hrow r hr).1, (eD _ (by omega)).trans (hrow r hr).2.1, fun t ht => (eD _ (by omega)).trans ((hrow r hr).2.2 t ht)⟩, fun j hj2 => ?_⟩ hI
      · rw [si_ne (by omega), o180 1 (by omega)]; exact h01
      · rw [si_ne (by omega), o180 15 (by omega)]; exact h15
      · rw [si_ne (by omega)]; exact hO.2.2.2.1
      · rw [si_ne (by omega)]; exact hO.2.2.2.2.1
      · rw [si_ne (by omega)]; exact hO.2.2.2.2.2.1
      · rw [si_ne (by omega)]; exact hO.2.2.2.2.2.2
      · rw [si_ne (by omega), hj j (by omega), hs j a2, if_neg (by omega)]
      · rw [eD 3 (by omega), b3, hI.1]; rfl
      · rw [eL, Nat.zero_add, hn j (by omega)]; exact n3 j hj2
      · rw [eL, Nat.zero_add, hn (4 + j) (by omega), ← Nat.add_assoc]; exact n4 j hj2
      · rw [si_ne (by omega), hc j hj2, hI.2]
    · by_cases e : j < i
      · rw [xl_sl, xl_sl, if_neg (by omega), if_neg (by omega)]; exact hn j e
      · rw [show j = i by omega, xl_sl, xl_sl, if_pos ⟨rfl, rfl⟩, if_neg (by omega)]

