def rowOK (row to : Nat) : Prop := (row = 183 ∧ to + 5 ≤ 54) ∨ (row = 185 ∧ to + 5 ≤ 246)
theorem rowOK_x {row to : Nat} (h : rowOK row to) : xtn xN row = 1 ∧ to + 5 ≤ (xsh row).2 ∧ (xsh row).2 < 1000 ∧ row ≠ 180 ∧ row ≠ 181 ∧ row ≠ 186 ∧ row ≠ 187 := by
  rcases h with ⟨rfl, h⟩ | ⟨rfl, h⟩
  · exact ⟨tn_183, by rw [ln_183]; exact h, by rw [ln_183]; decide, by decide, by decide, by decide, by decide⟩
  · exact ⟨tn_185, by rw [ln_185]; exact h, by rw [ln_185]; decide, by decide, by decide, by decide, by decide⟩
/-- reader and row alone are otherwise -/
def qS (row to : Nat) (A B : xH) : Prop := (∀ c, c ≠ 180 → c ≠ row → B.1 c = A.1 c ∧ B.2.1 c = A.2.1 c) ∧ B.2.2 = A.2.2 ∧ (∀ k, k ≠ 3 → k ≠ 11 → k ≠ 12 → k ≠ 13 → k ≠ 14 → k ≠ 18 → xi B 180 k = xi A 180 k) ∧ (∀ k, k ≠ 17 → xl B 180 k = xl A 180 k) ∧ ∀ j, j < to ∨ to + 5 ≤ j → xi B row j = xi A row j
theorem qS_rf {row to : Nat} {A : xH} : qS row to A A := ⟨fun _ _ _ => ⟨rfl, rfl⟩, rfl, fun _ _ _ _ _ _ _ => rfl, fun _ _ => rfl, fun _ _ => rfl⟩
theorem qS_tr {row to : Nat} {A B C : xH} (h : qS row to A B) (h2 : qS row to B C) : qS row to A C :=
  ⟨fun c a b => ⟨(h2.1 c a b).1.trans (h.1 c a b).1, (h2.1 c a b).2.trans (h.1 c a b).2⟩, h2.2.1.trans h.2.1, fun k a b c d e g => (h2.2.2.1 k a b c d e g).trans (h.2.2.1 k a b c d e g), fun k a => (h2.2.2.2.1 k a).trans (h.2.2.2.1 k a), fun j a => (h2.2.2.2.2 j a).trans (h.2.2.2.2 j a)⟩
theorem qS_uS {row to : Nat} {A B : xH} (h : uS A B) (hr : row ≠ 180) : qS row to A B :=
  ⟨fun c a _ => h.1.1 c (by omega), h.1.2, fun k a b c d e _ => h.2.1 k a b c d e, h.2.2, fun j _ => congrFun (h.1.1 row (by omega)).1 j⟩
theorem qS_si {row to c k : Nat} {x : Int32} {A B : xH} (h : qS row to A B) (hr : row ≠ 180) (hc : (c = 180 ∧ k = 18) ∨ (c = row ∧ to ≤ k ∧ k < to + 5)) : qS row to A (xsi B c k x) := by
  obtain ⟨h1, h2, h3, h4, h5⟩ := h
  refine ⟨fun d a b => ⟨?_, (h1 d a b).2⟩, h2, fun j a b c d e g => ?_, h4, fun j a => ?_⟩
  · rw [← (h1 d a b).1]
    have hne : d ≠ c := by omega
    funext j
    simp [xsi, hne]
  · rw [si_ne (by omega)]; exact h3 j a b c d e g
  · rw [si_ne (by omega)]; exact h5 j a
theorem qS_l {row to c k : Nat} {A B : xH} (h : qS row to A B) (h1 : c ≠ 180) (h2 : c ≠ row) : xl B c k = xl A c k := congrFun (h.1 c h1 h2).2 k
def RU1 (row to : Nat) (A : xH) (P : xP) (v : xV) (f : Nat → Nat) (n lim p : Nat) : Prop := ∀ B e d, rln v f n lim p = .inl (e, d) → qS row to A B → P (some (.int 0)) (fltU B e d)
def RU2 (row to : Nat) (A : xH) (P : xP) (v : xV) (f : Nat → Nat) (n lim p : Nat) : Prop := ∀ B k l z, rln v f n lim p = .inr ((k, l), z) → qS row to A B → rowIs B row to k l → isMk (tk f n lim z) 59 = true → uT B f n lim z → P (some (.int 1)) B
def f_X12_readRule (q row : Nat) (x y z w : Int32) (A : xH) (P : xP) : Prop := q = 180 ∧ ∃ f n lim p v to fr, x = nI to ∧ y = nI fr ∧ z = nI (vS v) ∧ w = nI (vK v) ∧ fr ≤ 9 ∧ rowOK row to ∧ uT A f n lim p ∧ (tk f n lim p).1 ≠ 4 ∧ nmU A fr v ∧ dj v ∧ RU1 row to A P v f n lim p ∧ RU2 row to A P v f n lim p
def ruA (row : Nat) (A : xH) (P : xP) : xM → xK := fun μ L st B => ∃ f n lim p v to fr t k, fr ≤ 9 ∧ rowOK row to ∧ nmU A fr v ∧ dj v ∧ RU1 row to A P v f n lim p ∧ RU2 row to A P v f n lim p ∧ qS row to A B ∧ uT B f n lim (tk f n lim p).2.2.1 ∧ (tk f n lim (tk f n lim p).2.2.1).1 ≠ 4 ∧
  rln v f n lim p = rk k (rsy v f n lim 4 (tk f n lim (tk f n lim p).2.2.1).2.2.1 []) ∧ xi B row to = nI k ∧ xi B row (to + 1) = 0 ∧ t ≤ 3 ∧ (∀ j, j < t → xi B row (to + 2 + j) = -1) ∧ st = [] ∧ L = [some (.ref 180), some (.ref row), some (.int (nI to)), some (.int (nI fr)), some (.int (nI (vS v))), some (.int (nI (vK v))), some (.int (nI (2 + t)))] ∧ μ = (3 - t, 0, 0)
def ruB (row : Nat) (A : xH) (P : xP) : xM → xK := fun μ L st B => ∃ f n lim p v to fr k z l x, fr ≤ 9 ∧ rowOK row to ∧ nmU A fr v ∧ dj v ∧ RU1 row to A P v f n lim p ∧ RU2 row to A P v f n lim p ∧ qS row to A B ∧ uT B f n lim z ∧
  rln v f n lim p = rk k (rsy v f n lim (4 - l.length) z l) ∧ rowIs B row to k l ∧ l.length ≤ 3 ∧ st = [] ∧ L = [some (.ref 180), some (.ref row), some (.int (nI to)), some (.int (nI fr)), some (.int (nI (vS v))), some (.int (nI (vK v))), some (.int x)] ∧ μ = (3 - l.length, 0, 0)
theorem vfind_m {v : xV} {w : Int64} (h : vfind v w ≠ -1) (h1 : vS v ≤ 4) (h2 : vK v ≤ 5) : ∃ c, vfind v w = nI c ∧ c < 13 := by
  unfold vfind at h ⊢
  split
  · exact ⟨_, rfl, by omega⟩
  · rename_i q
    rw [if_neg q] at h
    split
    · exact ⟨_, rfl, by omega⟩
    · rename_i q2
      rw [if_neg q2] at h
      exact absurd rfl h
theorem con_X12_readRule (l : Launch) : xCon l yX12_readRule cX12_readRule 7 (some .boolean) 2 48 xN xN 0 xFT xFT (w_RRIIII f_X12_readRule) := by
  refine m_X12_readRule (I38 := fun q row x y z w A P => ruA row A P) (I61 := fun q row x y z w A P => ruB row A P) ?_ ?_ ?_
  · rintro q row x y z w A P ⟨rfl, f, n, lim, p, v, to, fr, rfl, rfl, rfl, rfl, hfr, hrow, hu, h4, hN, hd, h1, h2⟩
    obtain ⟨r1, r2, r3, r4, r5, r6, r7⟩ := rowOK_x hrow
    simp only [k_X12_readRule_0, k_X12_readRule_38, k_X12_readRule_61, w_R, w_RI, w_RIIII, x_aload, x_dup2, x_iadd, x_iald, x_iast, x_icmp_ge, x_icmp_ne, x_if_ne, x_iinc, x_iload, x_istore, x_isub, x_push, x_zret, y_cv0, y_cv1, y_cv4, y_getI, xFT, xbool0, xbool1, Nat.reduceAdd, Nat.zero_add, xgl_0, xgl_s, xgl_n, xst_0, xst_1n, xst_1i, xst_1r, xst_1l, xst_s, set_0, set_s, true_and, and_true, xres, xcat_nil, xcat_i, xcat_r, xcat_l, Nat.add_zero, xble0, xble1, xble2, xble3, xble4, xble5, xble6, xble7, xble8]
    refine next_U hu h4 fun B hS hB => ?_
    simp only [k_X12_readRule_0, k_X12_readRule_38, k_X12_readRule_61, w_R, w_RI, w_RIIII, x_aload, x_dup2, x_iadd, x_iald, x_iast, x_icmp_ge, x_icmp_ne, x_if_ne, x_iinc, x_iload, x_istore, x_isub, x_push, x_zret, y_cv0, y_cv1, y_cv4, y_getI, xFT, xbool0, xbool1, Nat.reduceAdd, Nat.zero_add, xgl_0, xgl_s, xgl_n, xst_0, xst_1n, xst_1i, xst_1r, xst_1l, xst_s, set_0, set_s, true_and, and_true, xres, xcat_nil, xcat_i, xcat_r, xcat_l, Nat.add_zero, xble0, xble1, xble2, xble3, xble4, xble5, xble6, xble7, xble8]
    have hNB : nmU B fr v := nmU_off hN fun k => xoff_l hS.1 (by omega)
    have hq : qS row to A B := qS_uS hS r4
    refine lk_U (v := v) (z := true) hB hNB hfr hd (fun a => ?_) (fun a b => ?_) (fun a b => ?_)
    · simp only [k_X12_readRule_0, k_X12_readRule_38, k_X12_readRule_61, w_R, w_RI, w_RIIII, x_aload, x_dup2, x_iadd, x_iald, x_iast, x_icmp_ge, x_icmp_ne, x_if_ne, x_iinc, x_iload, x_istore, x_isub, x_push, x_zret, y_cv0, y_cv1, y_cv4, y_getI, xFT, xbool0, xbool1, Nat.reduceAdd, Nat.zero_add, xgl_0, xgl_s, xgl_n, xst_0, xst_1n, xst_1i, xst_1r, xst_1l, xst_s, set_0, set_s, true_and, and_true, xres, xcat_nil, xcat_i, xcat_r, xcat_l, Nat.add_zero, xble0, xble1, xble2, xble3, xble4, xble5, xble6, xble7, xble8, i00, i10, false_implies, true_implies, not_true_eq_false, not_false_eq_true, ne_eq]
      exact h1 _ _ _ (by unfold rln; rw [if_pos a]) hq
    · simp only [k_X12_readRule_0, k_X12_readRule_38, k_X12_readRule_61, w_R, w_RI, w_RIIII, x_aload, x_dup2, x_iadd, x_iald, x_iast, x_icmp_ge, x_icmp_ne, x_if_ne, x_iinc, x_iload, x_istore, x_isub, x_push, x_zret, y_cv0, y_cv1, y_cv4, y_getI, xFT, xbool0, xbool1, Nat.reduceAdd, Nat.zero_add, xgl_0, xgl_s, xgl_n, xst_0, xst_1n, xst_1i, xst_1r, xst_1l, xst_s, set_0, set_s, true_and, and_true, xres, xcat_nil, xcat_i, xcat_r, xcat_l, Nat.add_zero, xble0, xble1, xble2, xble3, xble4, xble5, xble6, xble7, xble8, i00, i10, false_implies, true_implies, not_true_eq_false, not_false_eq_true, ne_eq]
      have b2 : vfind v (lN (tk f n lim (tk f n lim p).2.2.1).2.2.2) < 8 := b
      exact h1 _ _ _ (by unfold rln; rw [if_neg (by rw [a]; decide), if_pos b2]) (qS_si hq r4 (by omega))
    · simp only [k_X12_readRule_0, k_X12_readRule_38, k_X12_readRule_61, w_R, w_RI, w_RIIII, x_aload, x_dup2, x_iadd, x_iald, x_iast, x_icmp_ge, x_icmp_ne, x_if_ne, x_iinc, x_iload, x_istore, x_isub, x_push, x_zret, y_cv0, y_cv1, y_cv4, y_getI, xFT, xbool0, xbool1, Nat.reduceAdd, Nat.zero_add, xgl_0, xgl_s, xgl_n, xst_0, xst_1n, xst_1i, xst_1r, xst_1l, xst_s, set_0, set_s, true_and, and_true, xres, xcat_nil, xcat_i, xcat_r, xcat_l, Nat.add_zero, xble0, xble1, xble2, xble3, xble4, xble5, xble6, xble7, xble8, i00, i10, false_implies, true_implies, not_true_eq_false, not_false_eq_true, ne_eq]
      have b2 : ¬ vfind v (lN (tk f n lim (tk f n lim p).2.2.1).2.2.2) < 8 := b
      obtain ⟨c, hc1, hc2⟩ := vfind_m (v := v) (w := lN (tk f n lim (tk f n lim p).2.2.1).2.2.2) (fun e => b2 (by rw [e]; decide)) hN.1 hN.2.1
      have hr := rln_ok (v := v) a b2
      rw [hc1] at b2 hr ⊢
      rw [c_lt 8 (by omega) (by decide)] at b2
      rw [si_eq, show (8 : Int32) = nI 8 from rfl, n_sub (by omega), nI_1, n_cl (n := to) (by omega), n_cl (n := to + 1) (by omega)]
      rw [n_cl (by omega)] at hr
      refine ⟨r1, (n_in (by omega) (by omega)).mpr (by omega), r1, (n_in (by omega) (by omega)).mpr (by omega), xE0 (3, 0, 0) ⟨f, n, lim, p, v, to, fr, 0, c - 8, hfr, hrow, hN, hd, h1, h2, qS_si (qS_si (qS_si hq r4 (by omega)) r4 (by omega)) r4 (by omega), uT_cell (uT_cell (uT_cell hB (by omega)) (by omega)) (by omega), by rw [na_1 a]; decide, hr, ?_, si_eq, by omega, fun j hj => by omega, rfl, rfl, rfl⟩⟩
      rw [si_ne (by omega), si_eq]
  · rintro q row x y z w A P - μ L st B ⟨f, n, lim, p, v, to, fr, t, k, hfr, hrow, hN, hd, h1, h2, hq, hu, h4, hr, k0, k1, ht, hj, rfl, rfl, rfl⟩
    obtain ⟨r1, r2, r3, r4, r5, r6, r7⟩ := rowOK_x hrow
    simp only [k_X12_readRule_0, k_X12_readRule_38, k_X12_readRule_61, w_R, w_RI, w_RIIII, x_aload, x_dup2, x_iadd, x_iald, x_iast, x_icmp_ge, x_icmp_ne, x_if_ne, x_iinc, x_iload, x_istore, x_isub, x_push, x_zret, y_cv0, y_cv1, y_cv4, y_getI, xFT, xbool0, xbool1, Nat.reduceAdd, Nat.zero_add, xgl_0, xgl_s, xgl_n, xst_0, xst_1n, xst_1i, xst_1r, xst_1l, xst_s, set_0, set_s, true_and, and_true, xres, xcat_nil, xcat_i, xcat_r, xcat_l, Nat.add_zero, xble0, xble1, xble2, xble3, xble4, xble5, xble6, xble7, xble8, c_ge 5 (c := 2 + t) (by omega) (by decide), nI_add, nI_1, n_cl (n := to + (2 + t)) (by omega)]
    refine ⟨fun a => next_U hu h4 fun D hS hD => ?_, fun a => ⟨r1, (n_in (by omega) (by omega)).mpr (by omega), xB1 (b := 3 - (t + 1)) (by omega) ⟨f, n, lim, p, v, to, fr, t + 1, k, hfr, hrow, hN, hd, h1, h2, qS_si hq r4 (by omega), uT_cell hu (by omega), h4, hr, ?_, ?_, by omega, fun j hj2 => ?_, rfl, rfl, rfl⟩⟩⟩
    · have ht3 : t = 3 := by omega
      subst ht3
      have e : ∀ j, xi D row j = xi B row j := fun j => xoff_i hS.1 (by omega)
      refine xE0 (3, 0, 0) ⟨f, n, lim, p, v, to, fr, k, _, [], nI (2 + 3), hfr, hrow, hN, hd, h1, h2, qS_tr hq (qS_uS hS r4), hD, hr, ⟨(e _).trans k0, (e _).trans k1, fun t ht => ?_⟩, by decide, rfl, rfl, rfl⟩
      rw [dif_neg (by simp), e]
      exact hj t ht
    · rw [si_ne (by omega)]; exact k0
    · rw [si_ne (by omega)]; exact k1
    · by_cases e : j < t
      · rw [si_ne (by omega)]; exact hj j e
      · rw [show to + 2 + j = to + (2 + t) by omega, si_eq]
  · rintro q row x y z w A P - μ L st B ⟨f, n, lim, p, v, to, fr, k, z, l, x, hfr, hrow, hN, hd, h1, h2, hq, hu, hr, hro, hl, rfl, rfl, rfl⟩
    obtain ⟨r1, r2, r3, r4, r5, r6, r7⟩ := rowOK_x hrow
    have ho := uT_ok hu
    have ht := hu.2.2.2.2.2
    have hk : 4 - l.length = (3 - l.length) + 1 := by omega
    rw [hk] at hr
    simp only [rsy] at hr
    have hNB : nmU B fr v := nmU_off hN fun k => qS_l hq (by omega) (by omega)
    simp only [k_X12_readRule_0, k_X12_readRule_38, k_X12_readRule_61, w_R, w_RI, w_RIIII, x_aload, x_dup2, x_iadd, x_iald, x_iast, x_icmp_ge, x_icmp_ne, x_if_ne, x_iinc, x_iload, x_istore, x_isub, x_push, x_zret, y_cv0, y_cv1, y_cv4, y_getI, xFT, xbool0, xbool1, Nat.reduceAdd, Nat.zero_add, xgl_0, xgl_s, xgl_n, xst_0, xst_1n, xst_1i, xst_1r, xst_1l, xst_s, set_0, set_s, true_and, and_true, xres, xcat_nil, xcat_i, xcat_r, xcat_l, Nat.add_zero, xble0, xble1, xble2, xble3, xble4, xble5, xble6, xble7, xble8, sign_L 59 ht ho (by decide), bI_t, ne_eq]
    refine ⟨fun a => ?_, fun a => lk_U (v := v) (z := false) hu hNB hfr hd (fun b => ?_) (fun b c => ?_) (fun b c => ?_)⟩
    · have a2 : isMk (tk f n lim z) 59 = true := by simpa using a
      rw [if_pos a2] at hr
      exact h2 B k l z hr hq hro a2 hu
    · simp only [k_X12_readRule_0, k_X12_readRule_38, k_X12_readRule_61, w_R, w_RI, w_RIIII, x_aload, x_dup2, x_iadd, x_iald, x_iast, x_icmp_ge, x_icmp_ne, x_if_ne, x_iinc, x_iload, x_istore, x_isub, x_push, x_zret, y_cv0, y_cv1, y_cv4, y_getI, xFT, xbool0, xbool1, Nat.reduceAdd, Nat.zero_add, xgl_0, xgl_s, xgl_n, xst_0, xst_1n, xst_1i, xst_1r, xst_1l, xst_s, set_0, set_s, true_and, and_true, xres, xcat_nil, xcat_i, xcat_r, xcat_l, Nat.add_zero, xble0, xble1, xble2, xble3, xble4, xble5, xble6, xble7, xble8, i00, i10, false_implies, true_implies, not_true_eq_false, not_false_eq_true, ne_eq]
      rw [if_neg (by rw [a]; decide), if_pos b] at hr
      exact h1 _ _ _ hr hq
    · simp only [k_X12_readRule_0, k_X12_readRule_38, k_X12_readRule_61, w_R, w_RI, w_RIIII, x_aload, x_dup2, x_iadd, x_iald, x_iast, x_icmp_ge, x_icmp_ne, x_if_ne, x_iinc, x_iload, x_istore, x_isub, x_push, x_zret, y_cv0, y_cv1, y_cv4, y_getI, xFT, xbool0, xbool1, Nat.reduceAdd, Nat.zero_add, xgl_0, xgl_s, xgl_n, xst_0, xst_1n, xst_1i, xst_1r, xst_1l, xst_s, set_0, set_s, true_and, and_true, xres, xcat_nil, xcat_i, xcat_r, xcat_l, Nat.add_zero, xble0, xble1, xble2, xble3, xble4, xble5, xble6, xble7, xble8, i00, i10, false_implies, true_implies, not_true_eq_false, not_false_eq_true, ne_eq]
      have c2 : vfind v (lN (tk f n lim z).2.2.2) = -1 := c
      rw [if_neg (by rw [a]; decide), if_neg (by rw [b]; decide), if_pos c2] at hr
      exact h1 _ _ _ hr (qS_si hq r4 (by omega))
    · have c2 : ¬ vfind v (lN (tk f n lim z).2.2.2) = -1 := c
      rw [if_neg (by rw [a]; decide), if_neg (by rw [b]; decide), if_neg c2] at hr
      obtain ⟨y, hy, hy2⟩ := vfind_m c2 hN.1 hN.2.1
      rw [hy] at hr ⊢
      rw [n_cl (by omega)] at hr
      have hu2 := (uT_cell (c := 180) (k := 18) (x := nI y) hu (by omega))
      simp only [k_X12_readRule_0, k_X12_readRule_38, k_X12_readRule_61, w_R, w_RI, w_RIIII, x_aload, x_dup2, x_iadd, x_iald, x_iast, x_icmp_ge, x_icmp_ne, x_if_ne, x_iinc, x_iload, x_istore, x_isub, x_push, x_zret, y_cv0, y_cv1, y_cv4, y_getI, xFT, xbool0, xbool1, Nat.reduceAdd, Nat.zero_add, xgl_0, xgl_s, xgl_n, xst_0, xst_1n, xst_1i, xst_1r, xst_1l, xst_s, set_0, set_s, true_and, and_true, xres, xcat_nil, xcat_i, xcat_r, xcat_l, Nat.add_zero, xble0, xble1, xble2, xble3, xble4, xble5, xble6, xble7, xble8, i10, not_false_eq_true, true_implies, false_implies, nI_1, n_cl (n := to + 1) (by omega), bI_0, si_eq, bad_L 4 hu2.2.2.2.2.2, show xi (xsi B 180 18 (nI y)) row (to + 1) = nI l.length from (si_ne (by omega)).trans hro.2.1, show (2 : Int32) = nI 2 from rfl, nI_add, n_cl (n := to + 2 + l.length) (by omega), c_eq 3 (c := l.length) (by omega) (by decide)]
      have happ := rowIs_app (A := xsi B 180 18 (nI y)) (c := row) (o := to) (k := k) (x := y) (l := l) ⟨by rw [si_ne (by omega)]; exact hro.1, by rw [si_ne (by omega)]; exact hro.2.1, fun t ht => by rw [si_ne (by omega)]; exact hro.2.2 t ht⟩
      refine ⟨r1, (n_in (by omega) (by omega)).mpr (by omega), fun d => ⟨r1, (n_in (by omega) (by omega)).mpr (by omega), r1, (n_in (by omega) (by omega)).mpr (by omega), r1, (n_in (by omega) (by omega)).mpr (by omega), r1, (n_in (by omega) (by omega)).mpr (by omega), ?_⟩, fun d => ?_⟩
      · rw [if_neg d] at hr
        have e1 : xi (xsi (xsi B 180 18 (nI y)) row (to + 2 + l.length) (nI y)) row (to + 1) = nI l.length := by
          rw [si_ne (by omega), si_ne (by omega)]; exact hro.2.1
        rw [e1, nI_1]
        have happ := happ (by omega)
        refine next_U (uT_cell (uT_cell hu2 (by omega)) (by omega)) (by rw [na_1 b]; decide) fun D hS hD => ?_
        simp only [k_X12_readRule_0, k_X12_readRule_38, k_X12_readRule_61, w_R, w_RI, w_RIIII, x_aload, x_dup2, x_iadd, x_iald, x_iast, x_icmp_ge, x_icmp_ne, x_if_ne, x_iinc, x_iload, x_istore, x_isub, x_push, x_zret, y_cv0, y_cv1, y_cv4, y_getI, xFT, xbool0, xbool1, Nat.reduceAdd, Nat.zero_add, xgl_0, xgl_s, xgl_n, xst_0, xst_1n, xst_1i, xst_1r, xst_1l, xst_s, set_0, set_s, true_and, and_true, xres, xcat_nil, xcat_i, xcat_r, xcat_l, Nat.add_zero, xble0, xble1, xble2, xble3, xble4, xble5, xble6, xble7, xble8]
        have e : ∀ j, xi D row j = _ := fun j => xoff_i hS.1 (by omega)
        refine xB1 (b := 3 - (l.length + 1)) (by omega) ⟨f, n, lim, p, v, to, fr, k, _, l ++ [y], x, hfr, hrow, hN, hd, h1, h2, qS_tr (qS_si (qS_si (qS_si hq r4 (by omega)) r4 (by omega)) r4 (by omega)) (qS_uS hS r4), hD, ?_, ⟨(e _).trans happ.1, (e _).trans happ.2.1, fun t ht => (e _).trans (happ.2.2 t ht)⟩, by simp; omega, rfl, rfl, by rw [List.length_append]; rfl⟩
        rw [hr, List.length_append, show 4 - (l.length + [y].length) = 3 - l.length by simp only [List.length_singleton]; omega]
      · rw [if_pos d] at hr
        exact h1 _ _ _ hr (qS_si hq r4 (by omega))

