/-! ===== methods on the whole of both sides (printed by program) ===== -/
theorem P_grammar {A : xH} {P : xP} (h : xI A) (hP : ∀ r B, (∀ Q : xP, (∀ D, xI D → Q (some (.int r)) D) → f_X12_grammar 180 B Q) → P (some (.int r)) B) : f_X11_grammar 0 A P := by
  obtain ⟨v, f, n, e, um, uv, kg, s, o, tg, rn, ar, tr, wt, hG, hC, hU⟩ := h
  obtain ⟨g1, g2, g3, g4, g5, g6⟩ := id hG
  obtain ⟨c1, c2, c3, c4, c5, c6, c7, c8, c9, c10, c11, c12, c13, c14⟩ := id hC
  obtain ⟨u1, u2, u3, u4, u5, u6, u7, u8, u9, u10, u11, u12, u13, u14, u15⟩ := id hU
  have w1 : wfg v := c1.1.2.1
  have w5 : vK v ≤ 5 := w1.2.1
  refine grammar_C c2 (fun er d B hg hB h11 h33 => hP _ B fun Q hQ => ?_) (fun w k B hg hB h11 h33 hM h282 h283 h016 h0 => hP _ B fun Q hQ => ?_)
  · have CB : xCI B v f 0 (nI er) um uv kg s o tg rn ar tr wt := ⟨(fM c1 hB (by unfold SGr; omega)), (t0C h11), h33, (fUC c4 hB (by unfold SGr; omega)), (fKC c5 hB (by unfold SGr; omega)), (fQC c6 hB (by unfold SGr; omega)), (fOC c7 hB (by unfold SGr; omega)), (fGC c8 hB (by unfold SGr; omega)), (ccC_fr w5 c9 hB (by unfold SGr; omega)), (fDC c10 hB (by unfold SGr; omega)), (fPC c11 hB (by unfold SGr; omega)), (twcC_fr c12 hB (by unfold SGr; omega)), (fRC c13 hB (by unfold SGr; omega)), (fWC c14 hB (by unfold SGr; omega))⟩
    have UB := UI_lt hU hB (by unfold SGr; omega)
    obtain ⟨u1, u2, u3, u4, u5, u6, u7, u8, u9, u10, u11, u12, u13, u14, u15⟩ := id UB
    refine ⟨rfl, f, n, u2, u15, fun D e2 d2 he hj h1 h15 => ?_, fun D w2 k2 he => ?_⟩
    · cases hg.symm.trans he
      have hD := jF_fr hj
      exact hQ D ⟨v, f, 0, _, um, uv, kg, s, o, tg, rn, ar, tr, wt, hG, CI_ge CB hD (by omega), ⟨(rr_j u1 hj), (t0U h1), h15, (uU_fr u4 hD (by omega)), (fKU u5 hD (by omega)), (fQU u6 hD (by omega)), (fOU u7 hD (by omega)), (fGU u8 hD (by omega)), (fAU u9 hD (by omega)), (plcU_fr u10 hD (by omega)), (twcU_fr u11 hD (by omega)), (ctcU_fr u12 hD (by omega)), (fRU u13 hD (by omega)), (fWU u14 hD (by omega)), (fSU u15 hD (by omega))⟩⟩
    · cases hg.symm.trans he
  · have hw : wfg w := hM.1.2.1
    have CB : xCI B w f 0 0 0 uv kg ((0, 0, fun _ => (0, 0, 0))) o tg rn ar tr wt := ⟨hM, (t0C h11), h33, (uC_0 c4 hB (by unfold SGr; omega) h016), (fKC c5 hB (by unfold SGr; omega)), (q0C h282 h283), (fOC c7 hB (by unfold SGr; omega)), (fGC c8 hB (by unfold SGr; omega)), (ccC_0 c9.2.1 hB (by unfold SGr; omega) h0.2.2.2), (Or.inl h0.1), (Or.inl h0.2.1), (Or.inl h0.2.2.1), (fRC c13 hB (by unfold SGr; omega)), (fWC c14 hB (by unfold SGr; omega))⟩
    have UB := UI_lt hU hB (by unfold SGr; omega)
    obtain ⟨u1, u2, u3, u4, u5, u6, u7, u8, u9, u10, u11, u12, u13, u14, u15⟩ := id UB
    refine ⟨rfl, f, n, u2, u15, fun D e2 d2 he => ?_, fun D w2 k2 he hj h1 h15 h57 hz hzz hR hI => ?_⟩
    · cases hg.symm.trans he
    · cases hg.symm.trans he
      have hD := jS_fr hj
      exact hQ D ⟨_, f, 0, 0, 0, uv, kg, (0, 0, fun _ => (0, 0, 0)), o, tg, rn, ar, tr, wt, ⟨gram_ok _ _ _ _ okV_z hg, Or.inl ⟨rfl, rfl⟩, g3, g4, g5, g6⟩, CI_ge CB hD (by omega), ⟨⟨hR, hw, hM.2.1, Or.inl hz.1⟩, (t0U h1), h15, ⟨by omega, h57, fun i hi => absurd hi (Nat.not_lt_zero i)⟩, (fKU u5 hD (by omega)), ⟨by show 0 ≤ 40; omega, hzz 96 (by omega) (by omega), fun i hi => absurd hi (Nat.not_lt_zero i)⟩, (fOU u7 hD (by omega)), (fGU u8 hD (by omega)), (fAU u9 hD (by omega)), (Or.inl hz.2.1), (Or.inl hz.2.2.1), (Or.inl hz.2.2.2), (fRU u13 hD (by omega)), (fWU u14 hD (by omega)), (fSU u15 hD (by omega))⟩⟩
theorem P_merge {A : xH} {P : xP} (x y : Int32) (h : xI A) (hP : ∀ r B, (∀ Q : xP, (∀ D, xI D → Q (some (.int r)) D) → f_X12_merge 180 x y B Q) → P (some (.int r)) B) : f_X11_merge 0 x y A P := by
  obtain ⟨v, f, n, e, um, uv, kg, s, o, tg, rn, ar, tr, wt, hG, hC, hU⟩ := h
  obtain ⟨g1, g2, g3, g4, g5, g6⟩ := id hG
  obtain ⟨c1, c2, c3, c4, c5, c6, c7, c8, c9, c10, c11, c12, c13, c14⟩ := id hC
  obtain ⟨u1, u2, u3, u4, u5, u6, u7, u8, u9, u10, u11, u12, u13, u14, u15⟩ := id hU
  have w1 : wfg v := c1.1.2.1
  have w5 : vK v ≤ 5 := w1.2.1
  refine merge_C c1 c4 fun B hd => hP _ B fun Q hQ => ?_
  have CB := dn_CI hC hd
  have UB := UI_lt hU hd.1 (by unfold SMd SSt SPs; omega)
  exact merge_U UB.1 UB.2.2.2.1 fun D hd2 => hQ D ⟨_, _, _, _, _, _, _, _, _, _, _, _, _, _, ⟨okV_same g1 hd.2.2.1, g2, g3, g4, g5, g6⟩, CI_ge CB hd2.1 (by unfold SMu SDd; omega), dn_UI UB hd2⟩
theorem P_depth {A : xH} {P : xP} (x : Int32) (h : xI A) (hP : ∀ r B, (∀ Q : xP, (∀ D, xI D → Q (some (.int r)) D) → f_X12_depth 180 x B Q) → P (some (.int r)) B) : f_X11_depth 0 x A P := by
  obtain ⟨v, f, n, e, um, uv, kg, s, o, tg, rn, ar, tr, wt, hG, hC, hU⟩ := h
  obtain ⟨g1, g2, g3, g4, g5, g6⟩ := id hG
  obtain ⟨c1, c2, c3, c4, c5, c6, c7, c8, c9, c10, c11, c12, c13, c14⟩ := id hC
  obtain ⟨u1, u2, u3, u4, u5, u6, u7, u8, u9, u10, u11, u12, u13, u14, u15⟩ := id hU
  have w1 : wfg v := c1.1.2.1
  have w5 : vK v ≤ 5 := w1.2.1
  refine depth_C c1 c4 fun B hd => hP _ B fun Q hQ => ?_
  have CB := dn_CI hC hd
  have UB := UI_lt hU hd.1 (by unfold SMd SSt SPs; omega)
  exact depth_U UB.1 UB.2.2.2.1 fun D hd2 => hQ D ⟨_, _, _, _, _, _, _, _, _, _, _, _, _, _, ⟨okV_same g1 hd.2.2.1, g2, g3, g4, g5, g6⟩, CI_ge CB hd2.1 (by unfold SMu SDd; omega), dn_UI UB hd2⟩
theorem P_drop {A : xH} {P : xP} (x : Int32) (h : xI A) (hP : ∀ r B, (∀ Q : xP, (∀ D, xI D → Q (some (.int r)) D) → f_X12_drop 180 x B Q) → P (some (.int r)) B) : f_X11_drop 0 x A P := by
  obtain ⟨v, f, n, e, um, uv, kg, s, o, tg, rn, ar, tr, wt, hG, hC, hU⟩ := h
  obtain ⟨g1, g2, g3, g4, g5, g6⟩ := id hG
  obtain ⟨c1, c2, c3, c4, c5, c6, c7, c8, c9, c10, c11, c12, c13, c14⟩ := id hC
  obtain ⟨u1, u2, u3, u4, u5, u6, u7, u8, u9, u10, u11, u12, u13, u14, u15⟩ := id hU
  have w1 : wfg v := c1.1.2.1
  have w5 : vK v ≤ 5 := w1.2.1
  refine drop_C c1 c4 fun B hd => hP _ B fun Q hQ => ?_
  have CB := dn_CI hC hd
  have UB := UI_lt hU hd.1 (by unfold SMd SSt SPs; omega)
  exact drop_U UB.1 UB.2.2.2.1 fun D hd2 => hQ D ⟨_, _, _, _, _, _, _, _, _, _, _, _, _, _, ⟨okV_same g1 hd.2.2.1, g2, g3, g4, g5, g6⟩, CI_ge CB hd2.1 (by unfold SMu SDd; omega), dn_UI UB hd2⟩
theorem P_add {A : xH} {P : xP} (x : Int32) (h : xI A) (hP : ∀ r B, (∀ Q : xP, (∀ D, xI D → Q (some (.int r)) D) → f_X12_add 180 x B Q) → P (some (.int r)) B) : f_X11_add 0 x A P := by
  obtain ⟨v, f, n, e, um, uv, kg, s, o, tg, rn, ar, tr, wt, hG, hC, hU⟩ := h
  obtain ⟨g1, g2, g3, g4, g5, g6⟩ := id hG
  obtain ⟨c1, c2, c3, c4, c5, c6, c7, c8, c9, c10, c11, c12, c13, c14⟩ := id hC
  obtain ⟨u1, u2, u3, u4, u5, u6, u7, u8, u9, u10, u11, u12, u13, u14, u15⟩ := id hU
  have w1 : wfg v := c1.1.2.1
  have w5 : vK v ≤ 5 := w1.2.1
  refine add_C c1 c2 c4 fun B hd => hP _ B fun Q hQ => ?_
  have f1 : fr (fun c k => c = 1 ∧ k = 1) A (xsi A 1 1 0) := fr_si fr_rf ⟨rfl, rfl⟩
  have e1 : xi (xsi A 1 1 0) 1 1 = 0 := si_eq
  generalize xsi A 1 1 0 = A1 at *
  have CA : xCI A1 v f 0 e um uv kg s o tg rn ar tr wt := ⟨(fM c1 f1 (by omega)), (t0C e1), (fE c3 f1 (by omega)), (fUC c4 f1 (by omega)), (fKC c5 f1 (by omega)), (fQC c6 f1 (by omega)), (fOC c7 f1 (by omega)), (fGC c8 f1 (by omega)), (ccC_fr w5 c9 f1 (by omega)), (fDC c10 f1 (by omega)), (fPC c11 f1 (by omega)), (twcC_fr c12 f1 (by omega)), (fRC c13 f1 (by omega)), (fWC c14 f1 (by omega))⟩
  have CB := dn_CI CA hd
  have UB := UI_lt (UI_lt hU f1 (by omega)) hd.1 (by unfold SMd SSt SPs; omega)
  refine ⟨rfl, v, um, uv, f, n, UB.1, UB.2.1, UB.2.2.2.1, fun D hd2 => ?_⟩
  have f2 := tkH_fr (A := B) (n := n) (lim := 3)
  have e2 := tkH_1 (A := B) (n := n) (lim := 3)
  generalize tkH B n 3 = B1 at *
  obtain ⟨u1, u2, u3, u4, u5, u6, u7, u8, u9, u10, u11, u12, u13, u14, u15⟩ := id UB
  have UA : xUI B1 v f 0 e um uv kg s o tg rn ar tr wt := ⟨(rr_fr u1 f2 (by omega)), (t0U e2), (fE u3 f2 (by omega)), (uU_fr u4 f2 (by omega)), (fKU u5 f2 (by omega)), (fQU u6 f2 (by omega)), (fOU u7 f2 (by omega)), (fGU u8 f2 (by omega)), (fAU u9 f2 (by omega)), (plcU_fr u10 f2 (by omega)), (twcU_fr u11 f2 (by omega)), (ctcU_fr u12 f2 (by omega)), (fRU u13 f2 (by omega)), (fWU u14 f2 (by omega)), (fSU u15 f2 (by omega))⟩
  exact hQ D ⟨_, _, _, _, _, _, _, _, _, _, _, _, _, _, ⟨okV_same g1 hd.2.2.1, g2, g3, g4, g5, g6⟩, CI_ge (CI_ge CB f2 (by omega)) hd2.1 (by unfold SMu SDd; omega), dn_UI UA hd2⟩
theorem P_undo {A : xH} {P : xP} (h : xI A) (hP : ∀ r B, (∀ Q : xP, (∀ D, xI D → Q (some (.int r)) D) → f_X12_undo 180 B Q) → P (some (.int r)) B) : f_X11_undo 0 A P := by
  obtain ⟨v, f, n, e, um, uv, kg, s, o, tg, rn, ar, tr, wt, hG, hC, hU⟩ := h
  obtain ⟨g1, g2, g3, g4, g5, g6⟩ := id hG
  obtain ⟨c1, c2, c3, c4, c5, c6, c7, c8, c9, c10, c11, c12, c13, c14⟩ := id hC
  obtain ⟨u1, u2, u3, u4, u5, u6, u7, u8, u9, u10, u11, u12, u13, u14, u15⟩ := id hU
  have w1 : wfg v := c1.1.2.1
  have w5 : vK v ≤ 5 := w1.2.1
  refine undo_C c1 c4 (fun z => hP _ A fun Q hQ => undo_U u1 u4 (fun _ => hQ A ⟨v, f, n, e, um, uv, kg, s, o, tg, rn, ar, tr, wt, hG, hC, hU⟩) (fun w => by omega)) (fun hp B hB hM hsn hu h0 => hP _ B fun Q hQ => ?_)
  have CB : xCI B (uv (um - 1)) f n e (um - 1) uv kg s o tg rn ar tr wt := ⟨hM, (fT c2 hB (by omega)), (fE c3 hB (by omega)), hu, (fKC c5 hB (by omega)), (fQC c6 hB (by omega)), (fOC c7 hB (by omega)), (fGC c8 hB (by omega)), (ccC_0 c9.2.1 hB (by omega) h0.2.2.2), (Or.inl h0.1), (Or.inl h0.2.1), (Or.inl h0.2.2.1), (fRC c13 hB (by omega)), (fWC c14 hB (by omega))⟩
  have UB := UI_lt hU hB (by omega)
  obtain ⟨u1, u2, u3, u4, u5, u6, u7, u8, u9, u10, u11, u12, u13, u14, u15⟩ := id UB
  refine undo_U u1 u4 (fun z => by omega) fun _ D hD hr hu2 h26 h27 h28 => hQ D ⟨uv (um - 1), f, n, e, um - 1, uv, kg, s, o, tg, rn, ar, tr, wt, ⟨okV_same g1 hsn, g2, g3, g4, g5, g6⟩, CI_ge CB hD (by omega), ⟨hr, (fU u2 hD (by omega)), (fE u3 hD (by omega)), hu2, (fKU u5 hD (by omega)), (fQU u6 hD (by omega)), (fOU u7 hD (by omega)), (fGU u8 hD (by omega)), (fAU u9 hD (by omega)), (Or.inl h26), (Or.inl h27), (Or.inl h28), (fRU u13 hD (by omega)), (fWU u14 hD (by omega)), (fSU u15 hD (by omega))⟩⟩
theorem P_drawn {A : xH} {P : xP} (x y : Int32) (h : xI A) (hP : ∀ r B, (∀ Q : xP, (∀ D, xI D → Q (some (.int r)) D) → f_X12_drawn 180 x y B Q) → P (some (.int r)) B) : f_X11_drawn 0 x y A P := by
  obtain ⟨v, f, n, e, um, uv, kg, s, o, tg, rn, ar, tr, wt, hG, hC, hU⟩ := h
  obtain ⟨g1, g2, g3, g4, g5, g6⟩ := id hG
  obtain ⟨c1, c2, c3, c4, c5, c6, c7, c8, c9, c10, c11, c12, c13, c14⟩ := id hC
  obtain ⟨u1, u2, u3, u4, u5, u6, u7, u8, u9, u10, u11, u12, u13, u14, u15⟩ := id hU
  have w1 : wfg v := c1.1.2.1
  have w5 : vK v ≤ 5 := w1.2.1
  refine drawn_C c1 c4 (fun no => hP _ A fun Q hQ => ⟨rfl, v, um, uv, u1, u4, fun _ => hQ A ⟨v, f, n, e, um, uv, kg, s, o, tg, rn, ar, tr, wt, hG, hC, hU⟩, fun k a b w => absurd ⟨k, a, b, w⟩ no⟩) (fun k a b w B hd => hP _ B fun Q hQ => ?_)
  have CB := dw_CI hC hd
  have UB := UI_lt hU hd.1 (by unfold SSt SPs SDw; omega)
  refine ⟨rfl, v, um, uv, UB.1, UB.2.2.2.1, fun no => absurd ⟨k, a, b, w⟩ no, fun k2 a2 b2 w2 D hd2 => ?_⟩
  have : k2 = k := nI_inj (by omega) (by omega) (w2.symm.trans w)
  subst this
  exact hQ D ⟨_, _, _, _, _, _, _, _, _, _, _, _, _, _, ⟨okV_same g1 hd.2.2.1, g2, g3, g4, g5, g6⟩, CI_ge CB hd2.1 (by unfold SMu SDd; omega), dw_UI UB hd2⟩

