/-! ===== methods on the whole of both sides (printed by program) ===== -/
theorem P_trees {A : xH} {P : xP} (h : xI A) (hP : ∀ r B, (∀ Q : xP, (∀ D, xI D → Q (some (.int r)) D) → f_X12_trees 180 B Q) → P (some (.int r)) B) : f_X11_trees 0 A P := by
  obtain ⟨v, f, n, e, um, uv, kg, s, o, tg, rn, ar, tr, wt, hG, hC, hU⟩ := h
  obtain ⟨g1, g2, g3, g4, g5, g6⟩ := id hG
  obtain ⟨c1, c2, c3, c4, c5, c6, c7, c8, c9, c10, c11, c12, c13, c14⟩ := id hC
  obtain ⟨u1, u2, u3, u4, u5, u6, u7, u8, u9, u10, u11, u12, u13, u14, u15⟩ := id hU
  have w1 : wfg v := c1.1.2.1
  have w5 : vK v ≤ 5 := w1.2.1
  refine ⟨rfl, v, f, n, c1, c9.1, c2, fun ok B hB h11 l0 a1 a2 a3 a4 => hP _ B fun Q hQ => ?_, fun no B hB h11 => hP _ B fun Q hQ => ?_⟩
  · have CB : xCI B v f 0 e um uv kg s o tg (some n) f tr wt := ⟨(fM c1 hB (by unfold STc SAn SAk SLn; omega)), (t0C h11), (fE c3 hB (by unfold STc SAn SAk SLn; omega)), (fUC c4 hB (by unfold STc SAn SAk SLn; omega)), (fKC c5 hB (by unfold STc SAn SAk SLn; omega)), (fQC c6 hB (by unfold STc SAn SAk SLn; omega)), (fOC c7 hB (by unfold STc SAn SAk SLn; omega)), (fGC c8 hB (by unfold STc SAn SAk SLn; omega)), ⟨Or.inr ⟨l0, a1, a2⟩, a3, a4⟩, (fDC c10 hB (by unfold STc SAn SAk SLn; omega)), (fPC c11 hB (by unfold STc SAn SAk SLn; omega)), (twcC_fr c12 hB (by unfold STc SAn SAk SLn; omega)), (fRC c13 hB (by unfold STc SAn SAk SLn; omega)), (fWC c14 hB (by unfold STc SAn SAk SLn; omega))⟩
    have UB := UI_lt hU hB (by unfold STc SAn SAk SLn; omega)
    obtain ⟨u1, u2, u3, u4, u5, u6, u7, u8, u9, u10, u11, u12, u13, u14, u15⟩ := id UB
    exact ⟨rfl, v, f, n, u1.1, w1, u12, u2, fun _ D hD h1 h28 hT hr => hQ D ⟨v, f, 0, e, um, uv, kg, s, o, tg, some n, f, tr, wt, hG, CI_ge CB hD (by unfold STq SRw SLc; omega), ⟨(rr_fr u1 hD (by unfold STq SRw SLc; omega)), (t0U h1), (fE u3 hD (by unfold STq SRw SLc; omega)), (uU_fr u4 hD (by unfold STq SRw SLc; omega)), (fKU u5 hD (by unfold STq SRw SLc; omega)), (fQU u6 hD (by unfold STq SRw SLc; omega)), (fOU u7 hD (by unfold STq SRw SLc; omega)), (fGU u8 hD (by unfold STq SRw SLc; omega)), hr, (plcU_fr u10 hD (by unfold STq SRw SLc; omega)), (twcU_fr u11 hD (by unfold STq SRw SLc; omega)), (Or.inr ⟨h28, hT⟩), (fRU u13 hD (by unfold STq SRw SLc; omega)), (fWU u14 hD (by unfold STq SRw SLc; omega)), (fSU u15 hD (by unfold STq SRw SLc; omega))⟩⟩, fun no => absurd ok no⟩
  · have CB : xCI B v f 0 e um uv kg s o tg rn ar tr wt := ⟨(fM c1 hB (by omega)), (t0C h11), (fE c3 hB (by omega)), (fUC c4 hB (by omega)), (fKC c5 hB (by omega)), (fQC c6 hB (by omega)), (fOC c7 hB (by omega)), (fGC c8 hB (by omega)), (ccC_fr w5 c9 hB (by omega)), (fDC c10 hB (by omega)), (fPC c11 hB (by omega)), (twcC_fr c12 hB (by omega)), (fRC c13 hB (by omega)), (fWC c14 hB (by omega))⟩
    have UB := UI_lt hU hB (by omega)
    obtain ⟨u1, u2, u3, u4, u5, u6, u7, u8, u9, u10, u11, u12, u13, u14, u15⟩ := id UB
    exact ⟨rfl, v, f, n, u1.1, w1, u12, u2, fun ok => absurd ok no, fun _ D hD h1 => hQ D ⟨v, f, 0, e, um, uv, kg, s, o, tg, rn, ar, tr, wt, hG, CI_ge CB hD (by omega), ⟨(rr_fr u1 hD (by omega)), (t0U h1), (fE u3 hD (by omega)), (uU_fr u4 hD (by omega)), (fKU u5 hD (by omega)), (fQU u6 hD (by omega)), (fOU u7 hD (by omega)), (fGU u8 hD (by omega)), (fAU u9 hD (by omega)), (plcU_fr u10 hD (by omega)), (twcU_fr u11 hD (by omega)), (ctcU_fr u12 hD (by omega)), (fRU u13 hD (by omega)), (fWU u14 hD (by omega)), (fSU u15 hD (by omega))⟩⟩⟩
theorem P_tree {A : xH} {P : xP} (x : Int32) (h : xI A) (hP : ∀ r B, (∀ Q : xP, (∀ D, xI D → Q (some (.int r)) D) → f_X12_tree 180 x B Q) → P (some (.int r)) B) : f_X11_tree 0 x A P := by
  obtain ⟨v, f, n, e, um, uv, kg, s, o, tg, rn, ar, tr, wt, hG, hC, hU⟩ := h
  obtain ⟨g1, g2, g3, g4, g5, g6⟩ := id hG
  obtain ⟨c1, c2, c3, c4, c5, c6, c7, c8, c9, c10, c11, c12, c13, c14⟩ := id hC
  obtain ⟨u1, u2, u3, u4, u5, u6, u7, u8, u9, u10, u11, u12, u13, u14, u15⟩ := id hU
  have w1 : wfg v := c1.1.2.1
  have w5 : vK v ≤ 5 := w1.2.1
  refine tree_C c1 c9 (fun B out hB hc ht h66 ho => hP _ B fun Q hQ => ?_) (fun B no hB hc => hP _ B fun Q hQ => ?_)
  · have CB : xCI B v f n e um uv kg s o tg rn ar (some out) wt := ⟨(fM c1 hB (by unfold STd SAn SLn SPk; omega)), (fT c2 hB (by unfold STd SAn SLn SPk; omega)), (fE c3 hB (by unfold STd SAn SLn SPk; omega)), (fUC c4 hB (by unfold STd SAn SLn SPk; omega)), (fKC c5 hB (by unfold STd SAn SLn SPk; omega)), (fQC c6 hB (by unfold STd SAn SLn SPk; omega)), (fOC c7 hB (by unfold STd SAn SLn SPk; omega)), (fGC c8 hB (by unfold STd SAn SLn SPk; omega)), hc, (fDC c10 hB (by unfold STd SAn SLn SPk; omega)), (fPC c11 hB (by unfold STd SAn SLn SPk; omega)), (twcC_fr c12 hB (by unfold STd SAn SLn SPk; omega)), ⟨h66, ho⟩, (fWC c14 hB (by unfold STd SAn SLn SPk; omega))⟩
    have UB := UI_lt hU hB (by unfold STd SAn SLn SPk; omega)
    obtain ⟨u1, u2, u3, u4, u5, u6, u7, u8, u9, u10, u11, u12, u13, u14, u15⟩ := id UB
    refine ⟨rfl, v, rn, ar, u1.1, w1, u12, u9, fun D out2 hD hc2 ht2 h73 ho2 => ?_, fun D no => absurd ht (no out)⟩
    have : out2 = out := trG_1 ht2 ht
    subst this
    have h6 : out2.length ≤ 600 := by obtain ⟨_, _, _, _, _, _, _, q⟩ := ht; exact q.1
    exact hQ D ⟨v, f, n, e, um, uv, kg, s, o, tg, rn, ar, _, wt, ⟨g1, g2, g3, g4, fun t et => by cases et; exact h6, g6⟩, CI_ge CB hD (by unfold SWt SRw SLc; omega), ⟨(rr_fr u1 hD (by unfold SWt SRw SLc; omega)), (fU u2 hD (by unfold SWt SRw SLc; omega)), (fE u3 hD (by unfold SWt SRw SLc; omega)), (uU_fr u4 hD (by unfold SWt SRw SLc; omega)), (fKU u5 hD (by unfold SWt SRw SLc; omega)), (fQU u6 hD (by unfold SWt SRw SLc; omega)), (fOU u7 hD (by unfold SWt SRw SLc; omega)), (fGU u8 hD (by unfold SWt SRw SLc; omega)), (fAU u9 hD (by unfold SWt SRw SLc; omega)), (plcU_fr u10 hD (by unfold SWt SRw SLc; omega)), (twcU_fr u11 hD (by unfold SWt SRw SLc; omega)), hc2, ⟨h73, ho2⟩, (fWU u14 hD (by unfold SWt SRw SLc; omega)), (fSU u15 hD (by unfold SWt SRw SLc; omega))⟩⟩
  · have CB : xCI B v f n e um uv kg s o tg rn ar tr wt := ⟨(fM c1 hB (by unfold STe SAn SLn SPn; omega)), (fT c2 hB (by unfold STe SAn SLn SPn; omega)), (fE c3 hB (by unfold STe SAn SLn SPn; omega)), (fUC c4 hB (by unfold STe SAn SLn SPn; omega)), (fKC c5 hB (by unfold STe SAn SLn SPn; omega)), (fQC c6 hB (by unfold STe SAn SLn SPn; omega)), (fOC c7 hB (by unfold STe SAn SLn SPn; omega)), (fGC c8 hB (by unfold STe SAn SLn SPn; omega)), hc, (fDC c10 hB (by unfold STe SAn SLn SPn; omega)), (fPC c11 hB (by unfold STe SAn SLn SPn; omega)), (twcC_fr c12 hB (by unfold STe SAn SLn SPn; omega)), (fRC c13 hB (by unfold STe SAn SLn SPn; omega)), (fWC c14 hB (by unfold STe SAn SLn SPn; omega))⟩
    have UB := UI_lt hU hB (by unfold STe SAn SLn SPn; omega)
    obtain ⟨u1, u2, u3, u4, u5, u6, u7, u8, u9, u10, u11, u12, u13, u14, u15⟩ := id UB
    exact ⟨rfl, v, rn, ar, u1.1, w1, u12, u9, fun D out2 hD hc2 ht2 => absurd ht2 (no out2), fun D _ hD hc2 => hQ D ⟨v, f, n, e, um, uv, kg, s, o, tg, rn, ar, tr, wt, hG, CI_ge CB hD (by unfold SWv SRw SLc; omega), ⟨(rr_fr u1 hD (by unfold SWv SRw SLc; omega)), (fU u2 hD (by unfold SWv SRw SLc; omega)), (fE u3 hD (by unfold SWv SRw SLc; omega)), (uU_fr u4 hD (by unfold SWv SRw SLc; omega)), (fKU u5 hD (by unfold SWv SRw SLc; omega)), (fQU u6 hD (by unfold SWv SRw SLc; omega)), (fOU u7 hD (by unfold SWv SRw SLc; omega)), (fGU u8 hD (by unfold SWv SRw SLc; omega)), (fAU u9 hD (by unfold SWv SRw SLc; omega)), (plcU_fr u10 hD (by unfold SWv SRw SLc; omega)), (twcU_fr u11 hD (by unfold SWv SRw SLc; omega)), hc2, (fRU u13 hD (by unfold SWv SRw SLc; omega)), (fWU u14 hD (by unfold SWv SRw SLc; omega)), (fSU u15 hD (by unfold SWv SRw SLc; omega))⟩⟩⟩
theorem P_treeAt {A : xH} {P : xP} (x : Int32) (h : xI A) (hP : ∀ r B, (∀ Q : xP, (∀ D, xI D → Q (some (.int r)) D) → f_X12_treeAt 180 x B Q) → P (some (.int r)) B) : f_X11_treeAt 0 x A P := by
  obtain ⟨v, f, n, e, um, uv, kg, s, o, tg, rn, ar, tr, wt, hG, hC, hU⟩ := h
  obtain ⟨g1, g2, g3, g4, g5, g6⟩ := id hG
  obtain ⟨c1, c2, c3, c4, c5, c6, c7, c8, c9, c10, c11, c12, c13, c14⟩ := id hC
  obtain ⟨u1, u2, u3, u4, u5, u6, u7, u8, u9, u10, u11, u12, u13, u14, u15⟩ := id hU
  have w1 : wfg v := c1.1.2.1
  have w5 : vK v ≤ 5 := w1.2.1
  cases tr with
  | none =>
    refine treeAt_C (n := 0) (t := fun _ => 0) c13 (by omega) (fun k hk => absurd hk (Nat.not_lt_zero k)) (hP _ A fun Q hQ => ?_)
    rw [anF_0] at hQ
    exact treeAt_U0 u13 (hQ A ⟨v, f, n, e, um, uv, kg, s, o, tg, rn, ar, none, wt, hG, hC, hU⟩)
  | some t =>
    have h6 := g5 t rfl
    refine treeAt_C (n := t.length) (t := fun k => nI (t.getD k 0)) c13.1 h6 c13.2 (hP _ A fun Q hQ => ?_)
    exact treeAt_U (n := t.length) (t := fun k => nI (t.getD k 0)) u13.1 h6 u13.2 (hQ A ⟨v, f, n, e, um, uv, kg, s, o, tg, rn, ar, some t, wt, hG, hC, hU⟩)
theorem P_witnessAt {A : xH} {P : xP} (x : Int32) (h : xI A) (hP : ∀ r B, (∀ Q : xP, (∀ D, xI D → Q (some (.int r)) D) → f_X12_witnessAt 180 x B Q) → P (some (.int r)) B) : f_X11_witnessAt 0 x A P := by
  obtain ⟨v, f, n, e, um, uv, kg, s, o, tg, rn, ar, tr, wt, hG, hC, hU⟩ := h
  obtain ⟨g1, g2, g3, g4, g5, g6⟩ := id hG
  obtain ⟨c1, c2, c3, c4, c5, c6, c7, c8, c9, c10, c11, c12, c13, c14⟩ := id hC
  obtain ⟨u1, u2, u3, u4, u5, u6, u7, u8, u9, u10, u11, u12, u13, u14, u15⟩ := id hU
  have w1 : wfg v := c1.1.2.1
  have w5 : vK v ≤ 5 := w1.2.1
  cases wt with
  | none =>
    refine witnessAt_C0 c14 (hP _ A fun Q hQ => witnessAt_U0 u14 (hQ A ⟨v, f, n, e, um, uv, kg, s, o, tg, rn, ar, tr, none, hG, hC, hU⟩))
  | some t =>
    have h6 := g6 t rfl
    refine witnessAt_C (n := t.1) (t := fun k => nI (t.2 k)) c14.1 h6 c14.2 (hP _ A fun Q hQ => ?_)
    exact witnessAt_U (n := t.1) (t := fun k => nI (t.2 k)) u14.1 h6 u14.2 (hQ A ⟨v, f, n, e, um, uv, kg, s, o, tg, rn, ar, tr, some t, hG, hC, hU⟩)
theorem P_witness {A : xH} {P : xP} (x : Int32) (h : xI A) (hP : ∀ r B, (∀ Q : xP, (∀ D, xI D → Q (some (.int r)) D) → f_X12_witness 180 x B Q) → P (some (.int r)) B) : f_X11_witness 0 x A P := by
  obtain ⟨v, f, n, e, um, uv, kg, s, o, tg, rn, ar, tr, wt, hG, hC, hU⟩ := h
  obtain ⟨g1, g2, g3, g4, g5, g6⟩ := id hG
  obtain ⟨c1, c2, c3, c4, c5, c6, c7, c8, c9, c10, c11, c12, c13, c14⟩ := id hC
  obtain ⟨u1, u2, u3, u4, u5, u6, u7, u8, u9, u10, u11, u12, u13, u14, u15⟩ := id hU
  have w1 : wfg v := c1.1.2.1
  have w5 : vK v ≤ 5 := w1.2.1
  refine witness_C c1 c9.1 (fun no => hP _ A fun Q hQ => ⟨rfl, v, u1.1, w1, u12, fun _ => hQ A ⟨v, f, n, e, um, uv, kg, s, o, tg, rn, ar, tr, wt, hG, hC, hU⟩, fun k hk ek hK => ?_⟩) (fun k hk ek hK B hB => ?_)
  · rcases no with no | no
    · exact absurd ⟨k, hk, ek⟩ no
    · omega
  obtain ⟨hB, l0, l1, a1, a2⟩ := hB
  have ccB : ccC B v rn ar := ⟨Or.inr ⟨l0, a1, a2⟩, raC_fr c9.2.1 hB (by unfold SFW SAn SLn SKw; omega), fun _ w => absurd l1 w⟩
  have hsame : (w : Option (Nat × (Nat → Nat))) → gwtC B w → xCI B v f n e um uv kg s o tg rn ar tr w := fun w hw => ⟨(fM c1 hB (by unfold SFW SAn SLn SKw; omega)), (fT c2 hB (by unfold SFW SAn SLn SKw; omega)), (fE c3 hB (by unfold SFW SAn SLn SKw; omega)), (fUC c4 hB (by unfold SFW SAn SLn SKw; omega)), (fKC c5 hB (by unfold SFW SAn SLn SKw; omega)), (fQC c6 hB (by unfold SFW SAn SLn SKw; omega)), (fOC c7 hB (by unfold SFW SAn SLn SKw; omega)), (fGC c8 hB (by unfold SFW SAn SLn SKw; omega)), ccB, (fDC c10 hB (by unfold SFW SAn SLn SKw; omega)), (fPC c11 hB (by unfold SFW SAn SLn SKw; omega)), (twcC_fr c12 hB (by unfold SFW SAn SLn SKw; omega)), (fRC c13 hB (by unfold SFW SAn SLn SKw; omega)), hw⟩
  have UB := UI_lt hU hB (by unfold SFW SAn SLn SKw; omega)
  obtain ⟨u1, u2, u3, u4, u5, u6, u7, u8, u9, u10, u11, u12, u13, u14, u15⟩ := id UB
  refine ⟨fun hno h4 h59 => hP _ B fun Q hQ => ?_, fun m ρ hm hwit h57 h59 => hP _ B fun Q hQ => ?_⟩
  · have CB := hsame wt (by cases wt with
      | none => exact h4.trans c14
      | some t => exact ⟨h4.trans c14.1, fun x hx => (h59 x).trans (c14.2 x hx)⟩)
    refine ⟨rfl, v, u1.1, w1, u12, fun no => ?_, fun k2 hk2 e2 _ D hD => ?_⟩
    · rcases no with no | no
      · exact absurd ⟨k, hk, ek⟩ no
      · omega
    · have : k2 = k := nI_inj (by omega) (by omega) (e2.symm.trans ek)
      subst this
      obtain ⟨hD, h28, hT⟩ := hD
      refine ⟨fun _ h75 h223 => hQ D ⟨v, f, n, e, um, uv, kg, s, o, tg, rn, ar, tr, wt, hG, CI_ge CB hD (by unfold SWu SLc SSk; omega), ⟨(rr_fr u1 hD (by unfold SWu SLc SSk; omega)), (fU u2 hD (by unfold SWu SLc SSk; omega)), (fE u3 hD (by unfold SWu SLc SSk; omega)), (uU_fr u4 hD (by unfold SWu SLc SSk; omega)), (fKU u5 hD (by unfold SWu SLc SSk; omega)), (fQU u6 hD (by unfold SWu SLc SSk; omega)), (fOU u7 hD (by unfold SWu SLc SSk; omega)), (fGU u8 hD (by unfold SWu SLc SSk; omega)), (fAU u9 hD (by unfold SWu SLc SSk; omega)), (plcU_fr u10 hD (by unfold SWu SLc SSk; omega)), (twcU_fr u11 hD (by unfold SWu SLc SSk; omega)), (Or.inr ⟨h28, hT⟩), (fRU u13 hD (by unfold SWu SLc SSk; omega)), ?_, (fSU u15 hD (by unfold SWu SLc SSk; omega))⟩⟩, fun m ρ hm hwit _ _ => (isWit_no hwit hm hno).elim⟩
      cases wt with
      | none => exact h75.trans u14
      | some t => exact ⟨h75.trans u14.1, fun x hx => (h223 x).trans (u14.2 x hx)⟩
  · have CB := hsame (some (m, ρ)) ⟨h57, h59⟩
    refine ⟨rfl, v, u1.1, w1, u12, fun no => ?_, fun k2 hk2 e2 _ D hD => ?_⟩
    · rcases no with no | no
      · exact absurd ⟨k, hk, ek⟩ no
      · omega
    · have : k2 = k := nI_inj (by omega) (by omega) (e2.symm.trans ek)
      subst this
      obtain ⟨hD, h28, hT⟩ := hD
      refine ⟨fun hno => (isWit_no hwit hm hno).elim, fun m2 τ hm2 hwit2 h75 h223 => ?_⟩
      obtain ⟨rfl, hρ⟩ := isWit_1 hwit hwit2
      exact hQ D ⟨v, f, n, e, um, uv, kg, s, o, tg, rn, ar, tr, some (m, ρ), ⟨g1, g2, g3, g4, g5, fun t et => by cases et; show m ≤ 5; omega⟩, CI_ge CB hD (by unfold SWu SLc SSk; omega), ⟨(rr_fr u1 hD (by unfold SWu SLc SSk; omega)), (fU u2 hD (by unfold SWu SLc SSk; omega)), (fE u3 hD (by unfold SWu SLc SSk; omega)), (uU_fr u4 hD (by unfold SWu SLc SSk; omega)), (fKU u5 hD (by unfold SWu SLc SSk; omega)), (fQU u6 hD (by unfold SWu SLc SSk; omega)), (fOU u7 hD (by unfold SWu SLc SSk; omega)), (fGU u8 hD (by unfold SWu SLc SSk; omega)), (fAU u9 hD (by unfold SWu SLc SSk; omega)), (plcU_fr u10 hD (by unfold SWu SLc SSk; omega)), (twcU_fr u11 hD (by unfold SWu SLc SSk; omega)), (Or.inr ⟨h28, hT⟩), (fRU u13 hD (by unfold SWu SLc SSk; omega)), ⟨h75, fun x hx => (h223 x hx).trans (by show nI (τ x) = nI (ρ x); rw [hρ x hx])⟩, (fSU u15 hD (by unfold SWu SLc SSk; omega))⟩⟩
theorem P_tag {A : xH} {P : xP} (x : Int32) (h : xI A) (hP : ∀ r B, (∀ Q : xP, (∀ D, xI D → Q (some (.int r)) D) → f_X12_tag 180 x B Q) → P (some (.int r)) B) : f_X11_tag 0 x A P := by
  obtain ⟨v, f, n, e, um, uv, kg, s, o, tg, rn, ar, tr, wt, hG, hC, hU⟩ := h
  obtain ⟨g1, g2, g3, g4, g5, g6⟩ := id hG
  obtain ⟨c1, c2, c3, c4, c5, c6, c7, c8, c9, c10, c11, c12, c13, c14⟩ := id hC
  obtain ⟨u1, u2, u3, u4, u5, u6, u7, u8, u9, u10, u11, u12, u13, u14, u15⟩ := id hU
  have w1 : wfg v := c1.1.2.1
  have w5 : vK v ≤ 5 := w1.2.1
  refine ⟨rfl, v, c1, g1, fun no => hP _ A fun Q hQ => ⟨rfl, v, u1, g1, fun _ D hD hr => hQ D ⟨v, f, n, e, um, uv, kg, s, o, tg, rn, ar, tr, wt, hG, CI_ge hC hD (by unfold SIt; omega), ⟨hr, (fU u2 hD (by unfold SIt; omega)), (fE u3 hD (by unfold SIt; omega)), (uU_fr u4 hD (by unfold SIt; omega)), (fKU u5 hD (by unfold SIt; omega)), (fQU u6 hD (by unfold SIt; omega)), (fOU u7 hD (by unfold SIt; omega)), (fGU u8 hD (by unfold SIt; omega)), (fAU u9 hD (by unfold SIt; omega)), (plcU_fr u10 hD (by unfold SIt; omega)), (twcU_fr u11 hD (by unfold SIt; omega)), (ctcU_fr u12 hD (by unfold SIt; omega)), (fRU u13 hD (by unfold SIt; omega)), (fWU u14 hD (by unfold SIt; omega)), (fSU u15 hD (by unfold SIt; omega))⟩⟩, fun i a b w => absurd ⟨i, a, b, w⟩ no⟩, fun i a b w B hB ht => hP _ B fun Q hQ => ?_⟩
  have CB : xCI B v f n e um uv kg s o (tagV v i) rn ar tr wt := ⟨(fM c1 hB (by unfold STg; omega)), (fT c2 hB (by unfold STg; omega)), (fE c3 hB (by unfold STg; omega)), (fUC c4 hB (by unfold STg; omega)), (fKC c5 hB (by unfold STg; omega)), (fQC c6 hB (by unfold STg; omega)), (fOC c7 hB (by unfold STg; omega)), ht, (ccC_fr w5 c9 hB (by unfold STg; omega)), (fDC c10 hB (by unfold STg; omega)), (fPC c11 hB (by unfold STg; omega)), (twcC_fr c12 hB (by unfold STg; omega)), (fRC c13 hB (by unfold STg; omega)), (fWC c14 hB (by unfold STg; omega))⟩
  have UB := UI_lt hU hB (by unfold STg; omega)
  obtain ⟨u1, u2, u3, u4, u5, u6, u7, u8, u9, u10, u11, u12, u13, u14, u15⟩ := id UB
  refine ⟨rfl, v, u1, g1, fun no => absurd ⟨i, a, b, w⟩ no, fun i2 a2 b2 w2 D hD hr ht2 => ?_⟩
  have hN := vN_le w1
  have : i2 = i := nI_inj (by omega) (by omega) (w2.symm.trans w)
  subst this
  exact hQ D ⟨v, f, n, e, um, uv, kg, s, o, _, rn, ar, tr, wt, ⟨g1, g2, g3, tagV_42 w1 g1 a b, g5, g6⟩, CI_ge CB hD (by unfold STv SIt STu; omega), ⟨hr, (fU u2 hD (by unfold STv SIt STu; omega)), (fE u3 hD (by unfold STv SIt STu; omega)), (uU_fr u4 hD (by unfold STv SIt STu; omega)), (fKU u5 hD (by unfold STv SIt STu; omega)), (fQU u6 hD (by unfold STv SIt STu; omega)), (fOU u7 hD (by unfold STv SIt STu; omega)), ht2, (fAU u9 hD (by unfold STv SIt STu; omega)), (plcU_fr u10 hD (by unfold STv SIt STu; omega)), (twcU_fr u11 hD (by unfold STv SIt STu; omega)), (ctcU_fr u12 hD (by unfold STv SIt STu; omega)), (fRU u13 hD (by unfold STv SIt STu; omega)), (fWU u14 hD (by unfold STv SIt STu; omega)), (fSU u15 hD (by unfold STv SIt STu; omega))⟩⟩
theorem P_byteAt {A : xH} {P : xP} (x : Int32) (h : xI A) (hP : ∀ r B, (∀ Q : xP, (∀ D, xI D → Q (some (.int r)) D) → f_X12_byteAt 180 x B Q) → P (some (.int r)) B) : f_X11_byteAt 0 x A P := by
  obtain ⟨v, f, n, e, um, uv, kg, s, o, tg, rn, ar, tr, wt, hG, hC, hU⟩ := h
  obtain ⟨g1, g2, g3, g4, g5, g6⟩ := id hG
  obtain ⟨c1, c2, c3, c4, c5, c6, c7, c8, c9, c10, c11, c12, c13, c14⟩ := id hC
  obtain ⟨u1, u2, u3, u4, u5, u6, u7, u8, u9, u10, u11, u12, u13, u14, u15⟩ := id hU
  have w1 : wfg v := c1.1.2.1
  have w5 : vK v ≤ 5 := w1.2.1
  exact byteAt_C c8.1 g4 c8.2 (hP _ A fun Q hQ => byteAt_U u8.1 (by omega) u8.2 (hQ A ⟨v, f, n, e, um, uv, kg, s, o, tg, rn, ar, tr, wt, hG, hC, hU⟩))
theorem P_told {A : xH} {P : xP} (y : Int32) (h : xI A) (hP : ∀ r B, (∀ Q : xP, (∀ D, xI D → Q (some (.int r)) D) → f_X12_told 180 y B Q) → P (some (.int r)) B) : f_X11_told 0 y A P := by
  obtain ⟨v, f, n, e, um, uv, kg, s, o, tg, rn, ar, tr, wt, hG, hC, hU⟩ := h
  obtain ⟨g1, g2, g3, g4, g5, g6⟩ := id hG
  obtain ⟨c1, c2, c3, c4, c5, c6, c7, c8, c9, c10, c11, c12, c13, c14⟩ := id hC
  obtain ⟨u1, u2, u3, u4, u5, u6, u7, u8, u9, u10, u11, u12, u13, u14, u15⟩ := id hU
  have w1 : wfg v := c1.1.2.1
  have w5 : vK v ≤ 5 := w1.2.1
  exact told_C c7 (hP _ A fun Q hQ => told_U u7 (hQ A ⟨v, f, n, e, um, uv, kg, s, o, tg, rn, ar, tr, wt, hG, hC, hU⟩))

