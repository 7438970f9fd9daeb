/-! ===== methods on the whole of both sides (printed by program) ===== -/
theorem kset_ok {kg : xKp} {k : Nat} {v : xV} {s : xQ} (h : ∀ k w q, k < 2 → kg k = some (w, q) → okQ0 q) (h2 : okQ0 s) : ∀ j w q, j < 2 → kset kg k v s j = some (w, q) → okQ0 q := by
  intro j w q hj ej
  unfold kset at ej
  split at ej
  · cases ej; exact h2
  · exact h j w q hj ej
theorem P_book {A : xH} {P : xP} (x : Int32) (h : xI A) (hP : ∀ r B, (∀ Q : xP, (∀ D, xI D → Q (some (.int r)) D) → f_X12_book 180 x B Q) → P (some (.int r)) B) : f_X11_book 0 x A P := by
  obtain ⟨v, f, n, e, um, uv, kg, s, o, tg, rn, ar, tr, wt, hG, hC, hU⟩ := h
  obtain ⟨g1, g2, g3, g4, g5, g6⟩ := id hG
  obtain ⟨c1, c2, c3, c4, c5, c6, c7, c8, c9, c10, c11, c12, c13, c14⟩ := id hC
  obtain ⟨u1, u2, u3, u4, u5, u6, u7, u8, u9, u10, u11, u12, u13, u14, u15⟩ := id hU
  have w1 : wfg v := c1.1.2.1
  have w5 : vK v ≤ 5 := w1.2.1
  refine book_C c2 c1 c4 (fun no => hP _ A fun Q hQ => ⟨rfl, (v, f, n, um, uv), u1, u2, u15, u4, fun _ => hQ A ⟨v, f, n, e, um, uv, kg, s, o, tg, rn, ar, tr, wt, hG, hC, hU⟩, fun y => absurd y no⟩) (fun y B er d hb hB h11 h33 => hP _ B fun Q hQ => ?_) (fun y B c b hb hk => hP _ B fun Q hQ => ?_)
  · have CB : xCI B v f 0 (nI er) um uv kg s o tg rn ar tr wt := ⟨(fM c1 hB (by unfold SBp SB; omega)), (t0C h11), h33, (fUC c4 hB (by unfold SBp SB; omega)), (fKC c5 hB (by unfold SBp SB; omega)), (fQC c6 hB (by unfold SBp SB; omega)), (fOC c7 hB (by unfold SBp SB; omega)), (fGC c8 hB (by unfold SBp SB; omega)), (ccC_fr w5 c9 hB (by unfold SBp SB; omega)), (fDC c10 hB (by unfold SBp SB; omega)), (fPC c11 hB (by unfold SBp SB; omega)), (twcC_fr c12 hB (by unfold SBp SB; omega)), (fRC c13 hB (by unfold SBp SB; omega)), (fWC c14 hB (by unfold SBp SB; omega))⟩
    have UB := UI_lt hU hB (by unfold SBp SB; omega)
    obtain ⟨u1, u2, u3, u4, u5, u6, u7, u8, u9, u10, u11, u12, u13, u14, u15⟩ := id UB
    refine ⟨rfl, (v, f, n, um, uv), u1, u2, u15, u4, fun no => absurd y no, fun _ => ⟨fun D e2 d2 hb2 hD hr hu hfl h1 h15 h225 h81 => ?_, fun D c b hb2 => ?_⟩⟩
    · cases hb.symm.trans hb2
      exact hQ D ⟨v, f, 0, _, um, uv, kg, s, o, tg, rn, ar, tr, wt, hG, CI_ge CB hD (by unfold SBk; omega), bk_UI UB hD hr hu hfl h1 h15 (gto_same u7 h225 h81)⟩
    · cases hb.symm.trans hb2
  · have hsn := (jd_wf ⟨w1, c1.2.1⟩ c (bkp_ok w1.1 w5 41 0 0 bz c b hb fun i h => absurd h (Nat.not_lt_zero i))).2
    have UB := UI_lt hU (bkC_fr hk) (by unfold SBq SBp SB SJ SSt SPs; omega)
    obtain ⟨u1, u2, u3, u4, u5, u6, u7, u8, u9, u10, u11, u12, u13, u14, u15⟩ := id UB
    refine ⟨rfl, (v, f, n, um, uv), u1, u2, u15, u4, fun no => absurd y no, fun _ => ⟨fun D e2 d2 hb2 => ?_, fun D c2 b2 hb2 hD h1 h15 h81 t0 t1 t2 t3 hr hfl hu => ?_⟩⟩
    · cases hb.symm.trans hb2
    · cases hb.symm.trans hb2
      exact hQ D ⟨_, _, _, _, _, _, _, _, _, _, _, _, _, _, ⟨okV_same g1 (bkW_sn hsn), g2, g3, g4, g5, g6⟩, CI_ge (bk_CI hC hk) hD (by unfold SBk; omega), bk_UI UB hD hr hu hfl h1 h15 (gto_new h81 t0 t1 t2 t3)⟩
theorem P_sentence {A : xH} {P : xP} (h : xI A) (hP : ∀ r B, (∀ Q : xP, (∀ D, xI D → Q (some (.int r)) D) → f_X12_sentence 180 B Q) → P (some (.int r)) B) : f_X11_sentence 0 A P := by
  obtain ⟨v, f, n, e, um, uv, kg, s, o, tg, rn, ar, tr, wt, hG, hC, hU⟩ := h
  obtain ⟨g1, g2, g3, g4, g5, g6⟩ := id hG
  obtain ⟨c1, c2, c3, c4, c5, c6, c7, c8, c9, c10, c11, c12, c13, c14⟩ := id hC
  obtain ⟨u1, u2, u3, u4, u5, u6, u7, u8, u9, u10, u11, u12, u13, u14, u15⟩ := id hU
  have w1 : wfg v := c1.1.2.1
  have w5 : vK v ≤ 5 := w1.2.1
  refine sentence_C c2 c1 (fun er d B hs hB h11 h33 => hP _ B fun Q hQ => ?_) (fun q m B hs ok hB h11 h33 hq => hP _ B fun Q hQ => ?_)
  · have CB : xCI B v f 0 (nI er) um uv kg s o tg rn ar tr wt := ⟨(fM c1 hB (by unfold SSc; omega)), (t0C h11), h33, (fUC c4 hB (by unfold SSc; omega)), (fKC c5 hB (by unfold SSc; omega)), (fQC c6 hB (by unfold SSc; omega)), (fOC c7 hB (by unfold SSc; omega)), (fGC c8 hB (by unfold SSc; omega)), (ccC_fr w5 c9 hB (by unfold SSc; omega)), (fDC c10 hB (by unfold SSc; omega)), (fPC c11 hB (by unfold SSc; omega)), (twcC_fr c12 hB (by unfold SSc; omega)), (fRC c13 hB (by unfold SSc; omega)), (fWC c14 hB (by unfold SSc; omega))⟩
    have UB := UI_lt hU hB (by unfold SSc; omega)
    obtain ⟨u1, u2, u3, u4, u5, u6, u7, u8, u9, u10, u11, u12, u13, u14, u15⟩ := id UB
    refine ⟨rfl, f, n, v, u2, u15, ⟨u1.1.2.1, u1.1.2.2.2.1, u1.1.1.1, u1.1.1.2.1⟩, w1.1, w5, fun e2 d2 D hs2 hD h1 h15 h96 => ?_, fun q2 m2 D hs2 => ?_⟩
    · cases sn_det hs hs2
      exact hQ D ⟨v, f, 0, _, um, uv, kg, s, o, tg, rn, ar, tr, wt, hG, CI_ge CB hD (by unfold SSe; omega), ⟨(rr_96 u1 hD (by unfold SSe; omega)), (t0U h1), h15, (uU_fr u4 hD (by unfold SSe; omega)), (fKU u5 hD (by unfold SSe; omega)), (qU_fr u6 fun k a _ => h96 k a), (fOU u7 hD (by unfold SSe; omega)), (fGU u8 hD (by unfold SSe; omega)), (fAU u9 hD (by unfold SSe; omega)), (plcU_fr u10 hD (by unfold SSe; omega)), (twcU_fr u11 hD (by unfold SSe; omega)), (ctcU_fr u12 hD (by unfold SSe; omega)), (fRU u13 hD (by unfold SSe; omega)), (fWU u14 hD (by unfold SSe; omega)), (fSU u15 hD (by unfold SSe; omega))⟩⟩
    · cases sn_det hs hs2
  · have CB : xCI B v f 0 0 um uv kg ((q.1, m, q.2)) o tg rn ar tr wt := ⟨(fM c1 hB (by unfold SSc; omega)), (t0C h11), h33, (fUC c4 hB (by unfold SSc; omega)), (fKC c5 hB (by unfold SSc; omega)), hq, (fOC c7 hB (by unfold SSc; omega)), (fGC c8 hB (by unfold SSc; omega)), (ccC_fr w5 c9 hB (by unfold SSc; omega)), (fDC c10 hB (by unfold SSc; omega)), (fPC c11 hB (by unfold SSc; omega)), (twcC_fr c12 hB (by unfold SSc; omega)), (fRC c13 hB (by unfold SSc; omega)), (fWC c14 hB (by unfold SSc; omega))⟩
    have UB := UI_lt hU hB (by unfold SSc; omega)
    obtain ⟨u1, u2, u3, u4, u5, u6, u7, u8, u9, u10, u11, u12, u13, u14, u15⟩ := id UB
    refine ⟨rfl, f, n, v, u2, u15, ⟨u1.1.2.1, u1.1.2.2.2.1, u1.1.1.1, u1.1.1.2.1⟩, w1.1, w5, fun e2 d2 D hs2 => ?_, fun q2 m2 D hs2 hD h1 h15 ok2 hq2 => ?_⟩
    · cases sn_det hs hs2
    · cases sn_det hs hs2
      exact hQ D ⟨v, f, 0, 0, um, uv, kg, _, o, tg, rn, ar, tr, wt, ⟨g1, Or.inr ok, g3, g4, g5, g6⟩, CI_ge CB hD (by unfold SSe; omega), ⟨(rr_96 u1 hD (by unfold SSe; omega)), (t0U h1), h15, (uU_fr u4 hD (by unfold SSe; omega)), (fKU u5 hD (by unfold SSe; omega)), hq2, (fOU u7 hD (by unfold SSe; omega)), (fGU u8 hD (by unfold SSe; omega)), (fAU u9 hD (by unfold SSe; omega)), (plcU_fr u10 hD (by unfold SSe; omega)), (twcU_fr u11 hD (by unfold SSe; omega)), (ctcU_fr u12 hD (by unfold SSe; omega)), (fRU u13 hD (by unfold SSe; omega)), (fWU u14 hD (by unfold SSe; omega)), (fSU u15 hD (by unfold SSe; omega))⟩⟩
theorem P_said {A : xH} {P : xP} (x : Int32) (h : xI A) (hP : ∀ r B, (∀ Q : xP, (∀ D, xI D → Q (some (.int r)) D) → f_X12_said 180 x B Q) → P (some (.int r)) B) : f_X11_said 0 x A P := by
  obtain ⟨v, f, n, e, um, uv, kg, s, o, tg, rn, ar, tr, wt, hG, hC, hU⟩ := h
  obtain ⟨g1, g2, g3, g4, g5, g6⟩ := id hG
  obtain ⟨c1, c2, c3, c4, c5, c6, c7, c8, c9, c10, c11, c12, c13, c14⟩ := id hC
  obtain ⟨u1, u2, u3, u4, u5, u6, u7, u8, u9, u10, u11, u12, u13, u14, u15⟩ := id hU
  have w1 : wfg v := c1.1.2.1
  have w5 : vK v ≤ 5 := w1.2.1
  exact ⟨rfl, v, s, c1, c6, g2, hP _ A fun Q hQ => ⟨rfl, v, s, u1, u6, g2, fun D hD hr => hQ D ⟨v, f, n, e, um, uv, kg, s, o, tg, rn, ar, tr, wt, hG, CI_ge hC hD (by unfold SIt; omega), ⟨hr, (fU u2 hD (by unfold SIt; omega)), (fE u3 hD (by unfold SIt; omega)), (uU_fr u4 hD (by unfold SIt; omega)), (fKU u5 hD (by unfold SIt; omega)), (fQU u6 hD (by unfold SIt; omega)), (fOU u7 hD (by unfold SIt; omega)), (fGU u8 hD (by unfold SIt; omega)), (fAU u9 hD (by unfold SIt; omega)), (plcU_fr u10 hD (by unfold SIt; omega)), (twcU_fr u11 hD (by unfold SIt; omega)), (ctcU_fr u12 hD (by unfold SIt; omega)), (fRU u13 hD (by unfold SIt; omega)), (fWU u14 hD (by unfold SIt; omega)), (fSU u15 hD (by unfold SIt; omega))⟩⟩⟩⟩
theorem P_image {A : xH} {P : xP} (x : Int32) (h : xI A) (hP : ∀ r B, (∀ Q : xP, (∀ D, xI D → Q (some (.int r)) D) → f_X12_image 180 x B Q) → P (some (.int r)) B) : f_X11_image 0 x A P := by
  obtain ⟨v, f, n, e, um, uv, kg, s, o, tg, rn, ar, tr, wt, hG, hC, hU⟩ := h
  obtain ⟨g1, g2, g3, g4, g5, g6⟩ := id hG
  obtain ⟨c1, c2, c3, c4, c5, c6, c7, c8, c9, c10, c11, c12, c13, c14⟩ := id hC
  obtain ⟨u1, u2, u3, u4, u5, u6, u7, u8, u9, u10, u11, u12, u13, u14, u15⟩ := id hU
  have w1 : wfg v := c1.1.2.1
  have w5 : vK v ≤ 5 := w1.2.1
  refine image_C c1 g1 c6 c5 (fun no => hP _ A fun Q hQ => ⟨rfl, v, s, kg, u1.1, ⟨w1, c1.2.1⟩, g1, u6, u5, fun _ => hQ A ⟨v, f, n, e, um, uv, kg, s, o, tg, rn, ar, tr, wt, hG, hC, hU⟩, fun k hk e => absurd ⟨k, hk, e⟩ no⟩) (fun k hk ek B hB hkp => hP _ B fun Q hQ => ?_)
  have CB : xCI B v f n e um uv (kset kg k v s) s o tg rn ar tr wt := ⟨(fM c1 hB (by unfold SIm; omega)), (fT c2 hB (by unfold SIm; omega)), (fE c3 hB (by unfold SIm; omega)), (fUC c4 hB (by unfold SIm; omega)), hkp, (fQC c6 hB (by unfold SIm; omega)), (fOC c7 hB (by unfold SIm; omega)), (fGC c8 hB (by unfold SIm; omega)), (ccC_fr w5 c9 hB (by unfold SIm; omega)), (fDC c10 hB (by unfold SIm; omega)), (fPC c11 hB (by unfold SIm; omega)), (twcC_fr c12 hB (by unfold SIm; omega)), (fRC c13 hB (by unfold SIm; omega)), (fWC c14 hB (by unfold SIm; omega))⟩
  have UB := UI_lt hU hB (by unfold SIm; omega)
  obtain ⟨u1, u2, u3, u4, u5, u6, u7, u8, u9, u10, u11, u12, u13, u14, u15⟩ := id UB
  refine ⟨rfl, v, s, kg, u1.1, ⟨w1, c1.2.1⟩, g1, u6, u5, fun no => absurd ⟨k, hk, ek⟩ no, fun k2 hk2 e2 D hD hkp2 => ?_⟩
  have : k2 = k := nI_inj (by omega) (by omega) (e2.symm.trans ek)
  subst this
  exact hQ D ⟨v, f, n, e, um, uv, _, s, o, tg, rn, ar, tr, wt, ⟨g1, g2, kset_ok g3 g2, g4, g5, g6⟩, CI_ge CB hD (by unfold SIu; omega), ⟨(rr_fr u1 hD (by unfold SIu; omega)), (fU u2 hD (by unfold SIu; omega)), (fE u3 hD (by unfold SIu; omega)), (uU_fr u4 hD (by unfold SIu; omega)), hkp2, (fQU u6 hD (by unfold SIu; omega)), (fOU u7 hD (by unfold SIu; omega)), (fGU u8 hD (by unfold SIu; omega)), (fAU u9 hD (by unfold SIu; omega)), (plcU_fr u10 hD (by unfold SIu; omega)), (twcU_fr u11 hD (by unfold SIu; omega)), (ctcU_fr u12 hD (by unfold SIu; omega)), (fRU u13 hD (by unfold SIu; omega)), (fWU u14 hD (by unfold SIu; omega)), (fSU u15 hD (by unfold SIu; omega))⟩⟩
theorem P_restore {A : xH} {P : xP} (x : Int32) (h : xI A) (hP : ∀ r B, (∀ Q : xP, (∀ D, xI D → Q (some (.int r)) D) → f_X12_restore 180 x B Q) → P (some (.int r)) B) : f_X11_restore 0 x A P := by
  obtain ⟨v, f, n, e, um, uv, kg, s, o, tg, rn, ar, tr, wt, hG, hC, hU⟩ := h
  obtain ⟨g1, g2, g3, g4, g5, g6⟩ := id hG
  obtain ⟨c1, c2, c3, c4, c5, c6, c7, c8, c9, c10, c11, c12, c13, c14⟩ := id hC
  obtain ⟨u1, u2, u3, u4, u5, u6, u7, u8, u9, u10, u11, u12, u13, u14, u15⟩ := id hU
  have w1 : wfg v := c1.1.2.1
  have w5 : vK v ≤ 5 := w1.2.1
  refine restore_C c5 (fun no => hP _ A fun Q hQ => ⟨rfl, kg, u5, fun _ => hQ A ⟨v, f, n, e, um, uv, kg, s, o, tg, rn, ar, tr, wt, hG, hC, hU⟩, fun k w q hk e ek => absurd ⟨k, w, q, hk, e, ek⟩ no⟩) (fun k w q hk ek ekg B hB hM hok hq h016 h0 => hP _ B fun Q hQ => ?_)
  have CB : xCI B w f n e 0 uv kg q o tg rn ar tr wt := ⟨hM, (fT c2 hB (by omega)), (fE c3 hB (by omega)), (uC_0 c4 hB (by omega) h016), (fKC c5 hB (by omega)), hq, (fOC c7 hB (by omega)), (fGC c8 hB (by omega)), (ccC_0 c9.2.1 hB (by omega) h0.2.2.2), (Or.inl h0.1), (Or.inl h0.2.1), (Or.inl h0.2.2.1), (fRC c13 hB (by omega)), (fWC c14 hB (by omega))⟩
  have UB := UI_lt hU hB (by omega)
  obtain ⟨u1, u2, u3, u4, u5, u6, u7, u8, u9, u10, u11, u12, u13, u14, u15⟩ := id UB
  refine ⟨rfl, kg, u5, fun no => absurd ⟨k, w, q, hk, ek, ekg⟩ no, fun k2 w2 q2 hk2 e2 ekg2 D hD hr _ hq2 h57 hz => ?_⟩
  have : k2 = k := nI_inj (by omega) (by omega) (e2.symm.trans ek)
  subst this
  cases ekg.symm.trans ekg2
  exact hQ D ⟨_, f, n, e, 0, uv, kg, _, o, tg, rn, ar, tr, wt, ⟨hok, g3 _ _ _ hk ekg, g3, g4, g5, g6⟩, CI_ge CB hD (by unfold SRe; omega), ⟨hr, (fU u2 hD (by unfold SRe; omega)), (fE u3 hD (by unfold SRe; omega)), ⟨by omega, h57, fun i hi => absurd hi (Nat.not_lt_zero i)⟩, (fKU u5 hD (by unfold SRe; omega)), hq2, (fOU u7 hD (by unfold SRe; omega)), (fGU u8 hD (by unfold SRe; omega)), (fAU u9 hD (by unfold SRe; omega)), (Or.inl hz.2.1), (Or.inl hz.2.2.1), (Or.inl hz.2.2.2), (fRU u13 hD (by unfold SRe; omega)), (fWU u14 hD (by unfold SRe; omega)), (fSU u15 hD (by unfold SRe; omega))⟩⟩

