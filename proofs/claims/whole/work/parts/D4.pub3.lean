/-! ===== methods on the whole of both sides (printed by program) ===== -/
theorem P_twins {A : xH} {P : xP} (x : Int32) (h : xI A) (hP : ∀ r B, (∀ Q : xP, (∀ D, xI D → Q (some (.int r)) D) → f_X12_twins 180 x B Q) → P (some (.int r)) B) : f_X11_twins 0 x A P := by
  obtain ⟨v, f, n, e, um, uv, kg, s, o, tg, rn, ar, tr, wt, hG, hC, hU⟩ := h
  obtain ⟨g1, g2, g3, g4, g5, g6⟩ := id hG
  obtain ⟨c1, c2, c3, c4, c5, c6, c7, c8, c9, c10, c11, c12, c13, c14⟩ := id hC
  obtain ⟨u1, u2, u3, u4, u5, u6, u7, u8, u9, u10, u11, u12, u13, u14, u15⟩ := id hU
  have w1 : wfg v := c1.1.2.1
  have w5 : vK v ≤ 5 := w1.2.1
  refine twins_C c1 c11 c12 fun B hB hp ht => hP _ B fun Q hQ => ?_
  have CB : xCI B v f n e um uv kg s o tg rn ar tr wt := ⟨(fM c1 hB (by unfold SFw; omega)), (fT c2 hB (by unfold SFw; omega)), (fE c3 hB (by unfold SFw; omega)), (fUC c4 hB (by unfold SFw; omega)), (fKC c5 hB (by unfold SFw; omega)), (fQC c6 hB (by unfold SFw; omega)), (fOC c7 hB (by unfold SFw; omega)), (fGC c8 hB (by unfold SFw; omega)), (ccC_fr w5 c9 hB (by unfold SFw; omega)), (fDC c10 hB (by unfold SFw; omega)), hp, ht, (fRC c13 hB (by unfold SFw; omega)), (fWC c14 hB (by unfold SFw; omega))⟩
  have UB := UI_lt hU hB (by unfold SFw; omega)
  obtain ⟨u1, u2, u3, u4, u5, u6, u7, u8, u9, u10, u11, u12, u13, u14, u15⟩ := id UB
  refine ⟨rfl, v, ⟨u1, u10, u11⟩, fun D hD hi hp2 ht2 => ?_⟩
  exact hQ D ⟨v, f, n, e, um, uv, kg, s, o, tg, rn, ar, tr, wt, hG, CI_ge CB hD (by unfold STw SPU; omega), ⟨(rr_hI u1 hD (by unfold STw SPU; omega) hi), (fU u2 hD (by unfold STw SPU; omega)), (fE u3 hD (by unfold STw SPU; omega)), (uU_fr u4 hD (by unfold STw SPU; omega)), (fKU u5 hD (by unfold STw SPU; omega)), (fQU u6 hD (by unfold STw SPU; omega)), (fOU u7 hD (by unfold STw SPU; omega)), (fGU u8 hD (by unfold STw SPU; omega)), (fAU u9 hD (by unfold STw SPU; omega)), hp2, ht2, (ctcU_fr u12 hD (by unfold STw SPU; omega)), (fRU u13 hD (by unfold STw SPU; omega)), (fWU u14 hD (by unfold STw SPU; omega)), (fSU u15 hD (by unfold STw SPU; omega))⟩⟩
theorem P_suspects {A : xH} {P : xP} (x : Int32) (h : xI A) (hP : ∀ r B, (∀ Q : xP, (∀ D, xI D → Q (some (.int r)) D) → f_X12_suspects 180 x B Q) → P (some (.int r)) B) : f_X11_suspects 0 x A P := by
  obtain ⟨v, f, n, e, um, uv, kg, s, o, tg, rn, ar, tr, wt, hG, hC, hU⟩ := h
  obtain ⟨g1, g2, g3, g4, g5, g6⟩ := id hG
  obtain ⟨c1, c2, c3, c4, c5, c6, c7, c8, c9, c10, c11, c12, c13, c14⟩ := id hC
  obtain ⟨u1, u2, u3, u4, u5, u6, u7, u8, u9, u10, u11, u12, u13, u14, u15⟩ := id hU
  have w1 : wfg v := c1.1.2.1
  have w5 : vK v ≤ 5 := w1.2.1
  refine suspects_C c1 c11 c12 fun B hB hp ht => hP _ B fun Q hQ => ?_
  have CB : xCI B v f n e um uv kg s o tg rn ar tr wt := ⟨(fM c1 hB (by unfold SFw; omega)), (fT c2 hB (by unfold SFw; omega)), (fE c3 hB (by unfold SFw; omega)), (fUC c4 hB (by unfold SFw; omega)), (fKC c5 hB (by unfold SFw; omega)), (fQC c6 hB (by unfold SFw; omega)), (fOC c7 hB (by unfold SFw; omega)), (fGC c8 hB (by unfold SFw; omega)), (ccC_fr w5 c9 hB (by unfold SFw; omega)), (fDC c10 hB (by unfold SFw; omega)), hp, ht, (fRC c13 hB (by unfold SFw; omega)), (fWC c14 hB (by unfold SFw; omega))⟩
  have UB := UI_lt hU hB (by unfold SFw; omega)
  obtain ⟨u1, u2, u3, u4, u5, u6, u7, u8, u9, u10, u11, u12, u13, u14, u15⟩ := id UB
  refine ⟨rfl, v, ⟨u1, u10, u11⟩, fun D hD hi hp2 ht2 => ?_⟩
  exact hQ D ⟨v, f, n, e, um, uv, kg, s, o, tg, rn, ar, tr, wt, hG, CI_ge CB hD (by unfold STw SPU; omega), ⟨(rr_hI u1 hD (by unfold STw SPU; omega) hi), (fU u2 hD (by unfold STw SPU; omega)), (fE u3 hD (by unfold STw SPU; omega)), (uU_fr u4 hD (by unfold STw SPU; omega)), (fKU u5 hD (by unfold STw SPU; omega)), (fQU u6 hD (by unfold STw SPU; omega)), (fOU u7 hD (by unfold STw SPU; omega)), (fGU u8 hD (by unfold STw SPU; omega)), (fAU u9 hD (by unfold STw SPU; omega)), hp2, ht2, (ctcU_fr u12 hD (by unfold STw SPU; omega)), (fRU u13 hD (by unfold STw SPU; omega)), (fWU u14 hD (by unfold STw SPU; omega)), (fSU u15 hD (by unfold STw SPU; omega))⟩⟩
theorem P_suspectAt {A : xH} {P : xP} (x y : Int32) (h : xI A) (hP : ∀ r B, (∀ Q : xP, (∀ D, xI D → Q (some (.int r)) D) → f_X12_suspectAt 180 x y B Q) → P (some (.int r)) B) : f_X11_suspectAt 0 x y A P := by
  obtain ⟨v, f, n, e, um, uv, kg, s, o, tg, rn, ar, tr, wt, hG, hC, hU⟩ := h
  obtain ⟨g1, g2, g3, g4, g5, g6⟩ := id hG
  obtain ⟨c1, c2, c3, c4, c5, c6, c7, c8, c9, c10, c11, c12, c13, c14⟩ := id hC
  obtain ⟨u1, u2, u3, u4, u5, u6, u7, u8, u9, u10, u11, u12, u13, u14, u15⟩ := id hU
  have w1 : wfg v := c1.1.2.1
  have w5 : vK v ≤ 5 := w1.2.1
  refine suspectAt_C c1 c11 c12 fun B hB hp ht => hP _ B fun Q hQ => ?_
  have CB : xCI B v f n e um uv kg s o tg rn ar tr wt := ⟨(fM c1 hB (by unfold SFw; omega)), (fT c2 hB (by unfold SFw; omega)), (fE c3 hB (by unfold SFw; omega)), (fUC c4 hB (by unfold SFw; omega)), (fKC c5 hB (by unfold SFw; omega)), (fQC c6 hB (by unfold SFw; omega)), (fOC c7 hB (by unfold SFw; omega)), (fGC c8 hB (by unfold SFw; omega)), (ccC_fr w5 c9 hB (by unfold SFw; omega)), (fDC c10 hB (by unfold SFw; omega)), hp, ht, (fRC c13 hB (by unfold SFw; omega)), (fWC c14 hB (by unfold SFw; omega))⟩
  have UB := UI_lt hU hB (by unfold SFw; omega)
  obtain ⟨u1, u2, u3, u4, u5, u6, u7, u8, u9, u10, u11, u12, u13, u14, u15⟩ := id UB
  refine ⟨rfl, v, ⟨u1, u10, u11⟩, fun D hD hi hp2 ht2 => ?_⟩
  exact hQ D ⟨v, f, n, e, um, uv, kg, s, o, tg, rn, ar, tr, wt, hG, CI_ge CB hD (by unfold STw SPU; omega), ⟨(rr_hI u1 hD (by unfold STw SPU; omega) hi), (fU u2 hD (by unfold STw SPU; omega)), (fE u3 hD (by unfold STw SPU; omega)), (uU_fr u4 hD (by unfold STw SPU; omega)), (fKU u5 hD (by unfold STw SPU; omega)), (fQU u6 hD (by unfold STw SPU; omega)), (fOU u7 hD (by unfold STw SPU; omega)), (fGU u8 hD (by unfold STw SPU; omega)), (fAU u9 hD (by unfold STw SPU; omega)), hp2, ht2, (ctcU_fr u12 hD (by unfold STw SPU; omega)), (fRU u13 hD (by unfold STw SPU; omega)), (fWU u14 hD (by unfold STw SPU; omega)), (fSU u15 hD (by unfold STw SPU; omega))⟩⟩
theorem P_twin {A : xH} {P : xP} (x y z : Int32) (h : xI A) (hP : ∀ r B, (∀ Q : xP, (∀ D, xI D → Q (some (.int r)) D) → f_X12_twin 180 x y z B Q) → P (some (.int r)) B) : f_X11_twin 0 x y z A P := by
  obtain ⟨v, f, n, e, um, uv, kg, s, o, tg, rn, ar, tr, wt, hG, hC, hU⟩ := h
  obtain ⟨g1, g2, g3, g4, g5, g6⟩ := id hG
  obtain ⟨c1, c2, c3, c4, c5, c6, c7, c8, c9, c10, c11, c12, c13, c14⟩ := id hC
  obtain ⟨u1, u2, u3, u4, u5, u6, u7, u8, u9, u10, u11, u12, u13, u14, u15⟩ := id hU
  have w1 : wfg v := c1.1.2.1
  have w5 : vK v ≤ 5 := w1.2.1
  refine twin_C c1 c11 c12 fun B hB hp ht => hP _ B fun Q hQ => ?_
  have CB : xCI B v f n e um uv kg s o tg rn ar tr wt := ⟨(fM c1 hB (by unfold SFw; omega)), (fT c2 hB (by unfold SFw; omega)), (fE c3 hB (by unfold SFw; omega)), (fUC c4 hB (by unfold SFw; omega)), (fKC c5 hB (by unfold SFw; omega)), (fQC c6 hB (by unfold SFw; omega)), (fOC c7 hB (by unfold SFw; omega)), (fGC c8 hB (by unfold SFw; omega)), (ccC_fr w5 c9 hB (by unfold SFw; omega)), (fDC c10 hB (by unfold SFw; omega)), hp, ht, (fRC c13 hB (by unfold SFw; omega)), (fWC c14 hB (by unfold SFw; omega))⟩
  have UB := UI_lt hU hB (by unfold SFw; omega)
  obtain ⟨u1, u2, u3, u4, u5, u6, u7, u8, u9, u10, u11, u12, u13, u14, u15⟩ := id UB
  refine twin_U ⟨u1, u10, u11⟩ fun D hD hi hp2 ht2 => ?_
  exact hQ D ⟨v, f, n, e, um, uv, kg, s, o, tg, rn, ar, tr, wt, hG, CI_ge CB hD (by unfold STw SPU; omega), ⟨(rr_hI u1 hD (by unfold STw SPU; omega) hi), (fU u2 hD (by unfold STw SPU; omega)), (fE u3 hD (by unfold STw SPU; omega)), (uU_fr u4 hD (by unfold STw SPU; omega)), (fKU u5 hD (by unfold STw SPU; omega)), (fQU u6 hD (by unfold STw SPU; omega)), (fOU u7 hD (by unfold STw SPU; omega)), (fGU u8 hD (by unfold STw SPU; omega)), (fAU u9 hD (by unfold STw SPU; omega)), hp2, ht2, (ctcU_fr u12 hD (by unfold STw SPU; omega)), (fRU u13 hD (by unfold STw SPU; omega)), (fWU u14 hD (by unfold STw SPU; omega)), (fSU u15 hD (by unfold STw SPU; omega))⟩⟩
theorem P_proven {A : xH} {P : xP} (h : xI A) (hP : ∀ r B, (∀ Q : xP, (∀ D, xI D → Q (some (.int r)) D) → f_X12_proven 180 B Q) → P (some (.int r)) B) : f_X11_proven 0 A P := by
  obtain ⟨v, f, n, e, um, uv, kg, s, o, tg, rn, ar, tr, wt, hG, hC, hU⟩ := h
  obtain ⟨g1, g2, g3, g4, g5, g6⟩ := id hG
  obtain ⟨c1, c2, c3, c4, c5, c6, c7, c8, c9, c10, c11, c12, c13, c14⟩ := id hC
  obtain ⟨u1, u2, u3, u4, u5, u6, u7, u8, u9, u10, u11, u12, u13, u14, u15⟩ := id hU
  have w1 : wfg v := c1.1.2.1
  have w5 : vK v ≤ 5 := w1.2.1
  refine proven_C c1 c11 c12 fun B hB hp ht => hP _ B fun Q hQ => ?_
  have CB : xCI B v f n e um uv kg s o tg rn ar tr wt := ⟨(fM c1 hB (by unfold SFw; omega)), (fT c2 hB (by unfold SFw; omega)), (fE c3 hB (by unfold SFw; omega)), (fUC c4 hB (by unfold SFw; omega)), (fKC c5 hB (by unfold SFw; omega)), (fQC c6 hB (by unfold SFw; omega)), (fOC c7 hB (by unfold SFw; omega)), (fGC c8 hB (by unfold SFw; omega)), (ccC_fr w5 c9 hB (by unfold SFw; omega)), (fDC c10 hB (by unfold SFw; omega)), hp, ht, (fRC c13 hB (by unfold SFw; omega)), (fWC c14 hB (by unfold SFw; omega))⟩
  have UB := UI_lt hU hB (by unfold SFw; omega)
  obtain ⟨u1, u2, u3, u4, u5, u6, u7, u8, u9, u10, u11, u12, u13, u14, u15⟩ := id UB
  refine proven_U ⟨u1, u10, u11⟩ fun D hD hi hp2 ht2 => ?_
  exact hQ D ⟨v, f, n, e, um, uv, kg, s, o, tg, rn, ar, tr, wt, hG, CI_ge CB hD (by unfold STw SPU; omega), ⟨(rr_hI u1 hD (by unfold STw SPU; omega) hi), (fU u2 hD (by unfold STw SPU; omega)), (fE u3 hD (by unfold STw SPU; omega)), (uU_fr u4 hD (by unfold STw SPU; omega)), (fKU u5 hD (by unfold STw SPU; omega)), (fQU u6 hD (by unfold STw SPU; omega)), (fOU u7 hD (by unfold STw SPU; omega)), (fGU u8 hD (by unfold STw SPU; omega)), (fAU u9 hD (by unfold STw SPU; omega)), hp2, ht2, (ctcU_fr u12 hD (by unfold STw SPU; omega)), (fRU u13 hD (by unfold STw SPU; omega)), (fWU u14 hD (by unfold STw SPU; omega)), (fSU u15 hD (by unfold STw SPU; omega))⟩⟩
theorem P_shadow {A : xH} {P : xP} (h : xI A) (hP : ∀ r B, (∀ Q : xP, (∀ D, xI D → Q (some (.int r)) D) → f_X12_shadow 180 B Q) → P (some (.int r)) B) : f_X11_shadow 0 A P := by
  obtain ⟨v, f, n, e, um, uv, kg, s, o, tg, rn, ar, tr, wt, hG, hC, hU⟩ := h
  obtain ⟨g1, g2, g3, g4, g5, g6⟩ := id hG
  obtain ⟨c1, c2, c3, c4, c5, c6, c7, c8, c9, c10, c11, c12, c13, c14⟩ := id hC
  obtain ⟨u1, u2, u3, u4, u5, u6, u7, u8, u9, u10, u11, u12, u13, u14, u15⟩ := id hU
  have w1 : wfg v := c1.1.2.1
  have w5 : vK v ≤ 5 := w1.2.1
  refine shadow_C c1 c11 c12 fun B hB hp ht => hP _ B fun Q hQ => ?_
  have CB : xCI B v f n e um uv kg s o tg rn ar tr wt := ⟨(fM c1 hB (by unfold SFw; omega)), (fT c2 hB (by unfold SFw; omega)), (fE c3 hB (by unfold SFw; omega)), (fUC c4 hB (by unfold SFw; omega)), (fKC c5 hB (by unfold SFw; omega)), (fQC c6 hB (by unfold SFw; omega)), (fOC c7 hB (by unfold SFw; omega)), (fGC c8 hB (by unfold SFw; omega)), (ccC_fr w5 c9 hB (by unfold SFw; omega)), (fDC c10 hB (by unfold SFw; omega)), hp, ht, (fRC c13 hB (by unfold SFw; omega)), (fWC c14 hB (by unfold SFw; omega))⟩
  have UB := UI_lt hU hB (by unfold SFw; omega)
  obtain ⟨u1, u2, u3, u4, u5, u6, u7, u8, u9, u10, u11, u12, u13, u14, u15⟩ := id UB
  refine shadow_U ⟨u1, u10, u11⟩ fun D hD hi hp2 ht2 => ?_
  exact hQ D ⟨v, f, n, e, um, uv, kg, s, o, tg, rn, ar, tr, wt, hG, CI_ge CB hD (by unfold STw SPU; omega), ⟨(rr_hI u1 hD (by unfold STw SPU; omega) hi), (fU u2 hD (by unfold STw SPU; omega)), (fE u3 hD (by unfold STw SPU; omega)), (uU_fr u4 hD (by unfold STw SPU; omega)), (fKU u5 hD (by unfold STw SPU; omega)), (fQU u6 hD (by unfold STw SPU; omega)), (fOU u7 hD (by unfold STw SPU; omega)), (fGU u8 hD (by unfold STw SPU; omega)), (fAU u9 hD (by unfold STw SPU; omega)), hp2, ht2, (ctcU_fr u12 hD (by unfold STw SPU; omega)), (fRU u13 hD (by unfold STw SPU; omega)), (fWU u14 hD (by unfold STw SPU; omega)), (fSU u15 hD (by unfold STw SPU; omega))⟩⟩
theorem P_odds {A : xH} {P : xP} (x y : Int32) (h : xI A) (hP : ∀ r B, (∀ Q : xP, (∀ D, xI D → Q (some (.int r)) D) → f_X12_odds 180 x y B Q) → P (some (.int r)) B) : f_X11_odds 0 x y A P := by
  obtain ⟨v, f, n, e, um, uv, kg, s, o, tg, rn, ar, tr, wt, hG, hC, hU⟩ := h
  obtain ⟨g1, g2, g3, g4, g5, g6⟩ := id hG
  obtain ⟨c1, c2, c3, c4, c5, c6, c7, c8, c9, c10, c11, c12, c13, c14⟩ := id hC
  obtain ⟨u1, u2, u3, u4, u5, u6, u7, u8, u9, u10, u11, u12, u13, u14, u15⟩ := id hU
  have w1 : wfg v := c1.1.2.1
  have w5 : vK v ≤ 5 := w1.2.1
  refine ⟨rfl, v, c1, fun B hB hor => hP _ B fun Q hQ => ?_⟩
  have CB : xCI B v f n e um uv kg s o tg rn ar tr wt := od_CI hC hB hor
  have UB := UI_lt hU hB (by unfold SOd SFw; omega)
  refine ⟨rfl, v, ⟨UB.1, UB.2.2.2.2.2.2.2.2.2.1, UB.2.2.2.2.2.2.2.2.2.2.1⟩, fun D hD hor2 hr h96 => ?_⟩
  exact hQ D ⟨v, f, n, e, um, uv, kg, s, o, tg, rn, ar, tr, wt, hG, CI_ge CB hD (by unfold SOu SDd STw SPU; omega), od_UI UB hD hor2 hr h96⟩

