/-! ===== methods on the whole of both sides (printed by program) ===== -/
theorem P_feed {A : xH} {P : xP} (a b c d z : Int32) (h : xI A) (hP : ∀ r B, (∀ Q : xP, (∀ D, xI D → Q (some (.int r)) D) → f_X12_feed 180 a b c d z B Q) → P (some (.int r)) B) : f_X11_feed 0 a b c d z A P := by
  obtain ⟨v, f, n, e, um, uv, kg, s, o, tg, rn, ar, tr, wt, hG, hC, hU⟩ := h
  obtain ⟨g1, g2, g3, g4, g5, g6⟩ := id hG
  obtain ⟨c1, c2, c3, c4, c5, c6, c7, c8, c9, c10, c11, c12, c13, c14⟩ := id hC
  obtain ⟨u1, u2, u3, u4, u5, u6, u7, u8, u9, u10, u11, u12, u13, u14, u15⟩ := id hU
  have w1 : wfg v := c1.1.2.1
  have w5 : vK v ≤ 5 := w1.2.1
  refine feed_C c2 (fun no => hP _ A fun Q hQ => feed_U u2 (fun _ => hQ A ⟨v, f, n, e, um, uv, kg, s, o, tg, rn, ar, tr, wt, hG, hC, hU⟩) (fun y => absurd y no)) (fun yes B hB hT => hP _ B fun Q hQ => ?_)
  have CB : xCI B v (fdF f n a b c d z) (n + 20) e um uv kg s o tg rn ar tr wt := ⟨(fM c1 hB (by unfold STp; omega)), hT, (fE c3 hB (by unfold STp; omega)), (fUC c4 hB (by unfold STp; omega)), (fKC c5 hB (by unfold STp; omega)), (fQC c6 hB (by unfold STp; omega)), (fOC c7 hB (by unfold STp; omega)), (fGC c8 hB (by unfold STp; omega)), (ccC_fr w5 c9 hB (by unfold STp; omega)), (fDC c10 hB (by unfold STp; omega)), (fPC c11 hB (by unfold STp; omega)), (twcC_fr c12 hB (by unfold STp; omega)), (fRC c13 hB (by unfold STp; omega)), (fWC c14 hB (by unfold STp; omega))⟩
  have UB := UI_lt hU hB (by unfold STp; omega)
  obtain ⟨u1, u2, u3, u4, u5, u6, u7, u8, u9, u10, u11, u12, u13, u14, u15⟩ := id UB
  exact feed_U u2 (fun no => absurd yes no) fun _ D hD hT2 => hQ D ⟨v, fdF f n a b c d z, n + 20, e, um, uv, kg, s, o, tg, rn, ar, tr, wt, hG, CI_ge CB hD (by unfold STr; omega), ⟨(rr_fr u1 hD (by unfold STr; omega)), hT2, (fE u3 hD (by unfold STr; omega)), (uU_fr u4 hD (by unfold STr; omega)), (fKU u5 hD (by unfold STr; omega)), (fQU u6 hD (by unfold STr; omega)), (fOU u7 hD (by unfold STr; omega)), (fGU u8 hD (by unfold STr; omega)), (fAU u9 hD (by unfold STr; omega)), (plcU_fr u10 hD (by unfold STr; omega)), (twcU_fr u11 hD (by unfold STr; omega)), (ctcU_fr u12 hD (by unfold STr; omega)), (fRU u13 hD (by unfold STr; omega)), (fWU u14 hD (by unfold STr; omega)), (fSU u15 hD (by unfold STr; omega))⟩⟩
theorem P_end {A : xH} {P : xP} (x : Int32) (h : xI A) (hP : ∀ r B, (∀ Q : xP, (∀ D, xI D → Q (some (.int r)) D) → f_X12_end 180 x B Q) → P (some (.int r)) B) : f_X11_end 0 x A P := by
  obtain ⟨v, f, n, e, um, uv, kg, s, o, tg, rn, ar, tr, wt, hG, hC, hU⟩ := h
  obtain ⟨g1, g2, g3, g4, g5, g6⟩ := id hG
  obtain ⟨c1, c2, c3, c4, c5, c6, c7, c8, c9, c10, c11, c12, c13, c14⟩ := id hC
  obtain ⟨u1, u2, u3, u4, u5, u6, u7, u8, u9, u10, u11, u12, u13, u14, u15⟩ := id hU
  have w1 : wfg v := c1.1.2.1
  have w5 : vK v ≤ 5 := w1.2.1
  refine end_C c2 (fun no => hP _ A fun Q hQ => end_U u2 (fun _ => hQ A ⟨v, f, n, e, um, uv, kg, s, o, tg, rn, ar, tr, wt, hG, hC, hU⟩) (fun k hk e => absurd ⟨k, by omega, e⟩ no)) (fun k hk ek B hB hT => hP _ B fun Q hQ => ?_)
  have CB : xCI B v f k e um uv kg s o tg rn ar tr wt := ⟨(fM c1 hB (by unfold STp; omega)), hT, (fE c3 hB (by unfold STp; omega)), (fUC c4 hB (by unfold STp; omega)), (fKC c5 hB (by unfold STp; omega)), (fQC c6 hB (by unfold STp; omega)), (fOC c7 hB (by unfold STp; omega)), (fGC c8 hB (by unfold STp; omega)), (ccC_fr w5 c9 hB (by unfold STp; omega)), (fDC c10 hB (by unfold STp; omega)), (fPC c11 hB (by unfold STp; omega)), (twcC_fr c12 hB (by unfold STp; omega)), (fRC c13 hB (by unfold STp; omega)), (fWC c14 hB (by unfold STp; omega))⟩
  have UB := UI_lt hU hB (by unfold STp; omega)
  obtain ⟨u1, u2, u3, u4, u5, u6, u7, u8, u9, u10, u11, u12, u13, u14, u15⟩ := id UB
  refine end_U u2 (fun no => absurd ⟨k, by omega, ek⟩ no) fun k2 hk2 e2 D hD hT2 => ?_
  have n9 := c2.2.1
  have : k2 = k := nI_inj (by omega) (by omega) (e2.symm.trans ek)
  subst this
  exact hQ D ⟨v, f, _, e, um, uv, kg, s, o, tg, rn, ar, tr, wt, hG, CI_ge CB hD (by unfold STr; omega), ⟨(rr_fr u1 hD (by unfold STr; omega)), hT2, (fE u3 hD (by unfold STr; omega)), (uU_fr u4 hD (by unfold STr; omega)), (fKU u5 hD (by unfold STr; omega)), (fQU u6 hD (by unfold STr; omega)), (fOU u7 hD (by unfold STr; omega)), (fGU u8 hD (by unfold STr; omega)), (fAU u9 hD (by unfold STr; omega)), (plcU_fr u10 hD (by unfold STr; omega)), (twcU_fr u11 hD (by unfold STr; omega)), (ctcU_fr u12 hD (by unfold STr; omega)), (fRU u13 hD (by unfold STr; omega)), (fWU u14 hD (by unfold STr; omega)), (fSU u15 hD (by unfold STr; omega))⟩⟩
theorem P_fault {A : xH} {P : xP} (h : xI A) (hP : ∀ r B, (∀ Q : xP, (∀ D, xI D → Q (some (.int r)) D) → f_X12_fault 180 B Q) → P (some (.int r)) B) : f_X11_fault 0 A P := by
  obtain ⟨v, f, n, e, um, uv, kg, s, o, tg, rn, ar, tr, wt, hG, hC, hU⟩ := h
  obtain ⟨g1, g2, g3, g4, g5, g6⟩ := id hG
  obtain ⟨c1, c2, c3, c4, c5, c6, c7, c8, c9, c10, c11, c12, c13, c14⟩ := id hC
  obtain ⟨u1, u2, u3, u4, u5, u6, u7, u8, u9, u10, u11, u12, u13, u14, u15⟩ := id hU
  have w1 : wfg v := c1.1.2.1
  have w5 : vK v ≤ 5 := w1.2.1
  refine fault_C (hP _ A fun Q hQ => fault_U ?_)
  rw [u3]
  rw [c3] at hQ
  exact hQ A ⟨v, f, n, e, um, uv, kg, s, o, tg, rn, ar, tr, wt, hG, hC, hU⟩
theorem P_rule {A : xH} {P : xP} (x y : Int32) (h : xI A) (hP : ∀ r B, (∀ Q : xP, (∀ D, xI D → Q (some (.int r)) D) → f_X12_rule 180 x y B Q) → P (some (.int r)) B) : f_X11_rule 0 x y A P := by
  obtain ⟨v, f, n, e, um, uv, kg, s, o, tg, rn, ar, tr, wt, hG, hC, hU⟩ := h
  obtain ⟨g1, g2, g3, g4, g5, g6⟩ := id hG
  obtain ⟨c1, c2, c3, c4, c5, c6, c7, c8, c9, c10, c11, c12, c13, c14⟩ := id hC
  obtain ⟨u1, u2, u3, u4, u5, u6, u7, u8, u9, u10, u11, u12, u13, u14, u15⟩ := id hU
  have w1 : wfg v := c1.1.2.1
  have w5 : vK v ≤ 5 := w1.2.1
  exact rule_C c1 (hP _ A fun Q hQ => rule_U u1 fun D hD hr => hQ D ⟨v, f, n, e, um, uv, kg, s, o, tg, rn, ar, tr, wt, hG, CI_ge hC hD (by unfold SIt; omega), ⟨hr, (fU u2 hD (by unfold SIt; omega)), (fE u3 hD (by unfold SIt; omega)), (uU_fr u4 hD (by unfold SIt; omega)), (fKU u5 hD (by unfold SIt; omega)), (fQU u6 hD (by unfold SIt; omega)), (fOU u7 hD (by unfold SIt; omega)), (fGU u8 hD (by unfold SIt; omega)), (fAU u9 hD (by unfold SIt; omega)), (plcU_fr u10 hD (by unfold SIt; omega)), (twcU_fr u11 hD (by unfold SIt; omega)), (ctcU_fr u12 hD (by unfold SIt; omega)), (fRU u13 hD (by unfold SIt; omega)), (fWU u14 hD (by unfold SIt; omega)), (fSU u15 hD (by unfold SIt; omega))⟩⟩)
theorem P_item {A : xH} {P : xP} (x y : Int32) (h : xI A) (hP : ∀ r B, (∀ Q : xP, (∀ D, xI D → Q (some (.int r)) D) → f_X12_item 180 x y B Q) → P (some (.int r)) B) : f_X11_item 0 x y A P := by
  obtain ⟨v, f, n, e, um, uv, kg, s, o, tg, rn, ar, tr, wt, hG, hC, hU⟩ := h
  obtain ⟨g1, g2, g3, g4, g5, g6⟩ := id hG
  obtain ⟨c1, c2, c3, c4, c5, c6, c7, c8, c9, c10, c11, c12, c13, c14⟩ := id hC
  obtain ⟨u1, u2, u3, u4, u5, u6, u7, u8, u9, u10, u11, u12, u13, u14, u15⟩ := id hU
  have w1 : wfg v := c1.1.2.1
  have w5 : vK v ≤ 5 := w1.2.1
  exact item_C c1 (hP _ A fun Q hQ => item_U u1 fun D hD hr => hQ D ⟨v, f, n, e, um, uv, kg, s, o, tg, rn, ar, tr, wt, hG, CI_ge hC hD (by unfold SIt; omega), ⟨hr, (fU u2 hD (by unfold SIt; omega)), (fE u3 hD (by unfold SIt; omega)), (uU_fr u4 hD (by unfold SIt; omega)), (fKU u5 hD (by unfold SIt; omega)), (fQU u6 hD (by unfold SIt; omega)), (fOU u7 hD (by unfold SIt; omega)), (fGU u8 hD (by unfold SIt; omega)), (fAU u9 hD (by unfold SIt; omega)), (plcU_fr u10 hD (by unfold SIt; omega)), (twcU_fr u11 hD (by unfold SIt; omega)), (ctcU_fr u12 hD (by unfold SIt; omega)), (fRU u13 hD (by unfold SIt; omega)), (fWU u14 hD (by unfold SIt; omega)), (fSU u15 hD (by unfold SIt; omega))⟩⟩)
theorem P_kind {A : xH} {P : xP} (x y : Int32) (h : xI A) (hP : ∀ r B, (∀ Q : xP, (∀ D, xI D → Q (some (.int r)) D) → f_X12_kind 180 x y B Q) → P (some (.int r)) B) : f_X11_kind 0 x y A P := by
  obtain ⟨v, f, n, e, um, uv, kg, s, o, tg, rn, ar, tr, wt, hG, hC, hU⟩ := h
  obtain ⟨g1, g2, g3, g4, g5, g6⟩ := id hG
  obtain ⟨c1, c2, c3, c4, c5, c6, c7, c8, c9, c10, c11, c12, c13, c14⟩ := id hC
  obtain ⟨u1, u2, u3, u4, u5, u6, u7, u8, u9, u10, u11, u12, u13, u14, u15⟩ := id hU
  have w1 : wfg v := c1.1.2.1
  have w5 : vK v ≤ 5 := w1.2.1
  refine kind_C c1 w1 c10 fun B r hB hk ha => hP r B fun Q hQ => ?_
  have CB : xCI B v f n e um uv kg s o tg rn ar tr wt := ⟨(fM c1 hB (by unfold SKd; omega)), (fT c2 hB (by unfold SKd; omega)), (fE c3 hB (by unfold SKd; omega)), (fUC c4 hB (by unfold SKd; omega)), (fKC c5 hB (by unfold SKd; omega)), (fQC c6 hB (by unfold SKd; omega)), (fOC c7 hB (by unfold SKd; omega)), (fGC c8 hB (by unfold SKd; omega)), (ccC_fr w5 c9 hB (by unfold SKd; omega)), hk, (fPC c11 hB (by unfold SKd; omega)), (twcC_fr c12 hB (by unfold SKd; omega)), (fRC c13 hB (by unfold SKd; omega)), (fWC c14 hB (by unfold SKd; omega))⟩
  have UB := UI_lt hU hB (by unfold SKd; omega)
  obtain ⟨u1, u2, u3, u4, u5, u6, u7, u8, u9, u10, u11, u12, u13, u14, u15⟩ := id UB
  refine kind_U u1.1 w1 fun D r2 hD ha2 => ?_
  rw [kAns_1 ha2 ha]
  exact hQ D ⟨v, f, n, e, um, uv, kg, s, o, tg, rn, ar, tr, wt, hG, CI_ge CB hD (by unfold SKU; omega), ⟨(rr_fr u1 hD (by unfold SKU; omega)), (fU u2 hD (by unfold SKU; omega)), (fE u3 hD (by unfold SKU; omega)), (uU_fr u4 hD (by unfold SKU; omega)), (fKU u5 hD (by unfold SKU; omega)), (fQU u6 hD (by unfold SKU; omega)), (fOU u7 hD (by unfold SKU; omega)), (fGU u8 hD (by unfold SKU; omega)), (fAU u9 hD (by unfold SKU; omega)), (plcU_fr u10 hD (by unfold SKU; omega)), (twcU_fr u11 hD (by unfold SKU; omega)), (ctcU_fr u12 hD (by unfold SKU; omega)), (fRU u13 hD (by unfold SKU; omega)), (fWU u14 hD (by unfold SKU; omega)), (fSU u15 hD (by unfold SKU; omega))⟩⟩
theorem P_place {A : xH} {P : xP} (x y : Int32) (h : xI A) (hP : ∀ r B, (∀ Q : xP, (∀ D, xI D → Q (some (.int r)) D) → f_X12_place 180 x y B Q) → P (some (.int r)) B) : f_X11_place 0 x y A P := by
  obtain ⟨v, f, n, e, um, uv, kg, s, o, tg, rn, ar, tr, wt, hG, hC, hU⟩ := h
  obtain ⟨g1, g2, g3, g4, g5, g6⟩ := id hG
  obtain ⟨c1, c2, c3, c4, c5, c6, c7, c8, c9, c10, c11, c12, c13, c14⟩ := id hC
  obtain ⟨u1, u2, u3, u4, u5, u6, u7, u8, u9, u10, u11, u12, u13, u14, u15⟩ := id hU
  have w1 : wfg v := c1.1.2.1
  have w5 : vK v ≤ 5 := w1.2.1
  refine place_CC c1 c11 fun B hB hp => hP _ B fun Q hQ => ?_
  have CB : xCI B v f n e um uv kg s o tg rn ar tr wt := ⟨(fM c1 hB (by unfold SBu; omega)), (fT c2 hB (by unfold SBu; omega)), (fE c3 hB (by unfold SBu; omega)), (fUC c4 hB (by unfold SBu; omega)), (fKC c5 hB (by unfold SBu; omega)), (fQC c6 hB (by unfold SBu; omega)), (fOC c7 hB (by unfold SBu; omega)), (fGC c8 hB (by unfold SBu; omega)), (ccC_fr w5 c9 hB (by unfold SBu; omega)), (fDC c10 hB (by unfold SBu; omega)), hp, (twcC_fr c12 hB (by unfold SBu; omega)), (fRC c13 hB (by unfold SBu; omega)), (fWC c14 hB (by unfold SBu; omega))⟩
  have UB := UI_lt hU hB (by unfold SBu; omega)
  obtain ⟨u1, u2, u3, u4, u5, u6, u7, u8, u9, u10, u11, u12, u13, u14, u15⟩ := id UB
  exact place_UU u1 u10 fun D hD hi hp2 => hQ D ⟨v, f, n, e, um, uv, kg, s, o, tg, rn, ar, tr, wt, hG, CI_ge CB hD (by unfold SPU; omega), ⟨(rr_hI u1 hD (by unfold SPU; omega) hi), (fU u2 hD (by unfold SPU; omega)), (fE u3 hD (by unfold SPU; omega)), (uU_fr u4 hD (by unfold SPU; omega)), (fKU u5 hD (by unfold SPU; omega)), (fQU u6 hD (by unfold SPU; omega)), (fOU u7 hD (by unfold SPU; omega)), (fGU u8 hD (by unfold SPU; omega)), (fAU u9 hD (by unfold SPU; omega)), hp2, (twcU_fr u11 hD (by unfold SPU; omega)), (ctcU_fr u12 hD (by unfold SPU; omega)), (fRU u13 hD (by unfold SPU; omega)), (fWU u14 hD (by unfold SPU; omega)), (fSU u15 hD (by unfold SPU; omega))⟩⟩
theorem P_step {A : xH} {P : xP} (x y z : Int32) (h : xI A) (hP : ∀ r B, (∀ Q : xP, (∀ D, xI D → Q (some (.int r)) D) → f_X12_step 180 x y z B Q) → P (some (.int r)) B) : f_X11_step 0 x y z A P := by
  obtain ⟨v, f, n, e, um, uv, kg, s, o, tg, rn, ar, tr, wt, hG, hC, hU⟩ := h
  obtain ⟨g1, g2, g3, g4, g5, g6⟩ := id hG
  obtain ⟨c1, c2, c3, c4, c5, c6, c7, c8, c9, c10, c11, c12, c13, c14⟩ := id hC
  obtain ⟨u1, u2, u3, u4, u5, u6, u7, u8, u9, u10, u11, u12, u13, u14, u15⟩ := id hU
  have w1 : wfg v := c1.1.2.1
  have w5 : vK v ≤ 5 := w1.2.1
  refine step_CC c1 c11 fun B hB hp => hP _ B fun Q hQ => ?_
  have CB : xCI B v f n e um uv kg s o tg rn ar tr wt := ⟨(fM c1 hB (by unfold SBu; omega)), (fT c2 hB (by unfold SBu; omega)), (fE c3 hB (by unfold SBu; omega)), (fUC c4 hB (by unfold SBu; omega)), (fKC c5 hB (by unfold SBu; omega)), (fQC c6 hB (by unfold SBu; omega)), (fOC c7 hB (by unfold SBu; omega)), (fGC c8 hB (by unfold SBu; omega)), (ccC_fr w5 c9 hB (by unfold SBu; omega)), (fDC c10 hB (by unfold SBu; omega)), hp, (twcC_fr c12 hB (by unfold SBu; omega)), (fRC c13 hB (by unfold SBu; omega)), (fWC c14 hB (by unfold SBu; omega))⟩
  have UB := UI_lt hU hB (by unfold SBu; omega)
  obtain ⟨u1, u2, u3, u4, u5, u6, u7, u8, u9, u10, u11, u12, u13, u14, u15⟩ := id UB
  exact step_UU u1 u10 fun D hD hi hp2 => hQ D ⟨v, f, n, e, um, uv, kg, s, o, tg, rn, ar, tr, wt, hG, CI_ge CB hD (by unfold SPU; omega), ⟨(rr_hI u1 hD (by unfold SPU; omega) hi), (fU u2 hD (by unfold SPU; omega)), (fE u3 hD (by unfold SPU; omega)), (uU_fr u4 hD (by unfold SPU; omega)), (fKU u5 hD (by unfold SPU; omega)), (fQU u6 hD (by unfold SPU; omega)), (fOU u7 hD (by unfold SPU; omega)), (fGU u8 hD (by unfold SPU; omega)), (fAU u9 hD (by unfold SPU; omega)), hp2, (twcU_fr u11 hD (by unfold SPU; omega)), (ctcU_fr u12 hD (by unfold SPU; omega)), (fRU u13 hD (by unfold SPU; omega)), (fWU u14 hD (by unfold SPU; omega)), (fSU u15 hD (by unfold SPU; omega))⟩⟩
theorem P_count {A : xH} {P : xP} (x : Int32) (h : xI A) (hP : ∀ r B, (∀ Q : xP, (∀ D, xI D → Q (some (.int r)) D) → f_X12_count 180 x B Q) → P (some (.int r)) B) : f_X11_count 0 x A P := by
  obtain ⟨v, f, n, e, um, uv, kg, s, o, tg, rn, ar, tr, wt, hG, hC, hU⟩ := h
  obtain ⟨g1, g2, g3, g4, g5, g6⟩ := id hG
  obtain ⟨c1, c2, c3, c4, c5, c6, c7, c8, c9, c10, c11, c12, c13, c14⟩ := id hC
  obtain ⟨u1, u2, u3, u4, u5, u6, u7, u8, u9, u10, u11, u12, u13, u14, u15⟩ := id hU
  have w1 : wfg v := c1.1.2.1
  have w5 : vK v ≤ 5 := w1.2.1
  refine count_CC c1 c2 c11 fun B hB hp => hP _ B fun Q hQ => ?_
  have CB : xCI B v f n e um uv kg s o tg rn ar tr wt := ⟨(fM c1 hB (by unfold SBu; omega)), (fT c2 hB (by unfold SBu; omega)), (fE c3 hB (by unfold SBu; omega)), (fUC c4 hB (by unfold SBu; omega)), (fKC c5 hB (by unfold SBu; omega)), (fQC c6 hB (by unfold SBu; omega)), (fOC c7 hB (by unfold SBu; omega)), (fGC c8 hB (by unfold SBu; omega)), (ccC_fr w5 c9 hB (by unfold SBu; omega)), (fDC c10 hB (by unfold SBu; omega)), hp, (twcC_fr c12 hB (by unfold SBu; omega)), (fRC c13 hB (by unfold SBu; omega)), (fWC c14 hB (by unfold SBu; omega))⟩
  have UB := UI_lt hU hB (by unfold SBu; omega)
  obtain ⟨u1, u2, u3, u4, u5, u6, u7, u8, u9, u10, u11, u12, u13, u14, u15⟩ := id UB
  exact count_UU u1 u2 u10 fun D hD hi hp2 => hQ D ⟨v, f, n, e, um, uv, kg, s, o, tg, rn, ar, tr, wt, hG, CI_ge CB hD (by unfold SPU; omega), ⟨(rr_hI u1 hD (by unfold SPU; omega) hi), (fU u2 hD (by unfold SPU; omega)), (fE u3 hD (by unfold SPU; omega)), (uU_fr u4 hD (by unfold SPU; omega)), (fKU u5 hD (by unfold SPU; omega)), (fQU u6 hD (by unfold SPU; omega)), (fOU u7 hD (by unfold SPU; omega)), (fGU u8 hD (by unfold SPU; omega)), (fAU u9 hD (by unfold SPU; omega)), hp2, (twcU_fr u11 hD (by unfold SPU; omega)), (ctcU_fr u12 hD (by unfold SPU; omega)), (fRU u13 hD (by unfold SPU; omega)), (fWU u14 hD (by unfold SPU; omega)), (fSU u15 hD (by unfold SPU; omega))⟩⟩

