/-! ===== the reference's goesOn ===== -/
theorem sc_lt4 {s : Nat} (h : s < 24) : sc s < 4 ↔ s < 4 := by unfold sc; split <;> (try split) <;> omega
theorem sc_inj {s u : Nat} (h : s < 24) (h2 : u < 24) (e : sc s = sc u) : s = u := by
  unfold sc at e
  split at e <;> split at e <;> (try split at e) <;> (try split at e) <;> omega
theorem sc_42 {s : Nat} (h : s < 24) : sc s < 42 := by unfold sc; split <;> (try split) <;> omega
theorem tY_of {v : xV} {p s q : Nat} (hw : wfg v) (hc : wfc v) (hs : s < 24) (hq : q < 128) (h : stT v p s q) : tY v p (sc s * 128 + q) = true := by
  rw [tY_tX hw hc hs hq]
  unfold tX
  rw [bt_iff, show (s * 128 + q) / 128 = s by omega, show (s * 128 + q) % 128 = q by omega]
  exact h
theorem tY_to {v : xV} {p y : Nat} (hw : wfg v) (hc : wfc v) (h : tY v p y = true) : ∃ s, s < 24 ∧ y / 128 = sc s ∧ stT v p s (y % 128) := by
  have h1 : ∃ s, s < 24 ∧ y / 128 = sc s := Classical.byContradiction fun w => by
    rw [tY_out hw hc fun s hs e => w ⟨s, hs, e⟩] at h
    cases h
  obtain ⟨s, hs, e⟩ := h1
  have ey : y = sc s * 128 + y % 128 := by omega
  have hq : y % 128 < 128 := Nat.mod_lt _ (by omega)
  rw [ey, tY_tX hw hc hs hq] at h
  unfold tX at h
  rw [bt_iff, show (s * 128 + y % 128) / 128 = s by omega, show (s * 128 + y % 128) % 128 = y % 128 by omega] at h
  exact ⟨s, hs, e, h⟩
/-- where a node leads: by no sign, by one -/
def eV (v : xV) (n : Nat × Nat × Nat) (t : Nat) (g : Bool) : Prop := ∃ n', t = nEn n' ∧ ((g = false ∧ e0T (stT v) n n') ∨ (g = true ∧ e1T (stT v) n n'))
theorem pv_e {v : xV} {s a b t : Nat} {g : Bool} (hw : wfg v) (hc : wfc v) (h80 : (plL v).length ≤ 80) : pvA v s a b t g ↔ ∃ n', t = nEn n' ∧ ((g = false ∧ s = 0 ∧ ∃ u u', 4 ≤ u ∧ u < 24 ∧ 4 ≤ u' ∧ u' < 24 ∧ stT v a u n'.2.1 ∧ stT v b u' n'.2.2 ∧ n'.1 = if u = u' then 0 else 1) ∨ (g = true ∧ e1T (stT v) (s, a, b) n')) := by
  constructor
  · rintro ⟨y, y', y1, y2, y3, y4, h⟩
    obtain ⟨u, u1, u2, u3⟩ := tY_to hw hc y3
    obtain ⟨w, w1, w2, w3⟩ := tY_to hw hc y4
    have l1 := sc_lt4 u1
    have l2 := sc_lt4 w1
    rcases h with ⟨h1, h2, h3, h4⟩ | ⟨h1, h2, h3, h4, h5, h6⟩
    · have e := sc_inj u1 w1 (by omega)
      subst e
      refine ⟨_, h3, ?_⟩
      by_cases q : u < 4
      · exact Or.inr ⟨by rw [h4, decide_eq_true (by omega)], ⟨u, q, u3, w3⟩, rfl⟩
      · have s0 : s = 0 := by omega
        exact Or.inl ⟨by rw [h4, decide_eq_false (by omega)], s0, u, u, by omega, u1, by omega, u1, u3, w3, by rw [if_pos rfl]; exact if_pos s0⟩
    · refine ⟨_, h5, Or.inl ⟨h6, h2, u, w, by omega, u1, by omega, w1, u3, w3, ?_⟩⟩
      rw [if_neg (fun e => by subst e; omega)]
  · rintro ⟨⟨s', p', q'⟩, rfl, ⟨rfl, s0, u, u', h1, h2, h3, h4, h5, h6, h7⟩ | ⟨rfl, ⟨u, h1, h2, h3⟩, h4⟩⟩
    · have p1 := (stT_pl h5).2
      have p2 := (stT_pl h6).2
      have h7 : s' = if u = u' then 0 else 1 := h7
      have p1 : p' < (plL v).length := p1
      have p2 : q' < (plL v).length := p2
      have l1 := sc_lt4 h2
      have l2 := sc_lt4 h4
      have l3 := sc_42 h2
      have l4 := sc_42 h4
      refine ⟨sc u * 128 + p', sc u' * 128 + q', by omega, by omega, tY_of hw hc h2 (by omega) h5, tY_of hw hc h4 (by omega) h6, ?_⟩
      unfold pvY
      rw [show (sc u * 128 + p') / 128 = sc u by omega, show (sc u' * 128 + q') / 128 = sc u' by omega, show (sc u * 128 + p') % 128 = p' by omega, show (sc u' * 128 + q') % 128 = q' by omega, if_pos s0, decide_eq_false (show ¬ sc u < 4 by omega)]
      by_cases e : u = u'
      · subst e
        rw [if_pos rfl] at h7
        rw [h7]
        exact Or.inl ⟨rfl, Or.inl s0, rfl, rfl⟩
      · rw [if_neg e] at h7
        rw [h7]
        exact Or.inr ⟨fun w => e (sc_inj h2 h4 w), s0, by omega, by omega, rfl, rfl⟩
    · have p1 : p' < (plL v).length := (stT_pl h2).2
      have p2 : q' < (plL v).length := (stT_pl h3).2
      have h4 : s' = if s = 0 then 0 else 1 := h4
      have e := sc_s h1
      refine ⟨u * 128 + p', u * 128 + q', by omega, by omega, ?_, ?_, Or.inl ⟨by omega, Or.inr (by omega), ?_, ?_⟩⟩
      · have := tY_of hw hc (show u < 24 by omega) (show p' < 128 by omega) h2
        rw [e] at this; exact this
      · have := tY_of hw hc (show u < 24 by omega) (show q' < 128 by omega) h3
        rw [e] at this; exact this
      · rw [show (u * 128 + p') % 128 = p' by omega, show (u * 128 + q') % 128 = q' by omega, h4]
      · rw [decide_eq_true (by omega)]
noncomputable def lfN (v : xV) (s q : Nat) : Nat := if s = 0 then (if q = 1 then 1 else if bt (hsV v q) then 2 else 0) else if s = 3 then 0 else s
noncomputable def rgN (v : xV) (s p : Nat) : Nat := if s = 0 then (if p = 1 then 1 else if bt (hsV v p) then 3 else 0) else if s = 2 then 0 else s
theorem lf_iff {v : xV} {s q s' : Nat} : lfS (stT v) s q s' ↔ lfN v s q = s' ∧ lfN v s q ≠ 0 := by
  have hb : hsP (stT v) q ↔ bt (hsV v q) = true := bt_iff.symm
  unfold lfS lfN
  rw [hb]
  by_cases s0 : s = 0
  · rw [if_pos s0]
    by_cases q1 : q = 1
    · rw [if_pos q1]; omega
    · rw [if_neg q1]
      cases bt (hsV v q)
      · rw [if_neg (by decide)]
        constructor
        · rintro (w | ⟨-, -, w, -⟩ | w)
          · omega
          · cases w
          · omega
        · omega
      · rw [if_pos rfl]
        constructor
        · rintro (w | ⟨-, -, -, w⟩ | w) <;> omega
        · rintro ⟨w, -⟩; exact Or.inr (Or.inl ⟨s0, q1, rfl, w.symm⟩)
  · rw [if_neg s0]
    by_cases s3 : s = 3
    · rw [if_pos s3]; omega
    · rw [if_neg s3]; omega
theorem rg_iff {v : xV} {s q s' : Nat} : rgS (stT v) s q s' ↔ rgN v s q = s' ∧ rgN v s q ≠ 0 := by
  have hb : hsP (stT v) q ↔ bt (hsV v q) = true := bt_iff.symm
  unfold rgS rgN
  rw [hb]
  by_cases s0 : s = 0
  · rw [if_pos s0]
    by_cases q1 : q = 1
    · rw [if_pos q1]; omega
    · rw [if_neg q1]
      cases bt (hsV v q)
      · rw [if_neg (by decide)]
        constructor
        · rintro (w | ⟨-, -, w, -⟩ | w)
          · omega
          · cases w
          · omega
        · omega
      · rw [if_pos rfl]
        constructor
        · rintro (w | ⟨-, -, -, w⟩ | w) <;> omega
        · rintro ⟨w, -⟩; exact Or.inr (Or.inl ⟨s0, q1, rfl, w.symm⟩)
  · rw [if_neg s0]
    by_cases s3 : s = 2
    · rw [if_pos s3]; omega
    · rw [if_neg s3]; omega
theorem lf_4 {v : xV} {s q : Nat} (h : s < 4) : lfN v s q < 4 := by
  unfold lfN
  split
  · split
    · omega
    · split <;> omega
  · split <;> omega
theorem rg_4 {v : xV} {s q : Nat} (h : s < 4) : rgN v s q < 4 := by
  unfold rgN
  split
  · split
    · omega
    · split <;> omega
  · split <;> omega
def lI (l : Nat) : Int32 := if l = 0 then -1 else nI l
theorem lI_le {l : Nat} (h : l < 4) : lI l ≤ 0 ↔ l = 0 := by
  unfold lI
  split
  · rename_i e; exact ⟨fun _ => e, fun _ => by decide⟩
  · rw [z_le (by omega)]
def lvM (v : xV) (l a b m t : Nat) (g : Bool) : Prop := g = false ∧ l ≠ 0 ∧ ∃ y, y < 5376 ∧ tY v a y = true ∧ 3 < y / 128 ∧ cb (tY v a) y < m ∧ t = nEn (l, y % 128, b)
def rvM (v : xV) (r a b m t : Nat) (g : Bool) : Prop := g = false ∧ r ≠ 0 ∧ ∃ y, y < 5376 ∧ tY v b y = true ∧ 3 < y / 128 ∧ cb (tY v b) y < m ∧ t = nEn (r, a, y % 128)
theorem lv_e {v : xV} {l a b m t : Nat} {g : Bool} (hw : wfg v) (hc : wfc v) (h80 : (plL v).length ≤ 80) (hm : l ≠ 0 → m = tN (stT v) a) : lvM v l a b m t g ↔ g = false ∧ l ≠ 0 ∧ ∃ p', nsT (stT v) a p' ∧ t = nEn (l, p', b) := by
  constructor
  · rintro ⟨h1, h2, y, y1, y2, y3, y4, y5⟩
    obtain ⟨u, u1, u2, u3⟩ := tY_to hw hc y2
    have := sc_lt4 u1
    exact ⟨h1, h2, _, ⟨u, by omega, u1, u3⟩, y5⟩
  · rintro ⟨h1, h2, p', ⟨u, u1, u2, u3⟩, e⟩
    have p1 := (stT_pl u3).2
    have l1 := sc_lt4 u2
    have l3 := sc_42 u2
    have ht := tY_of hw hc u2 (show p' < 128 by omega) u3
    refine ⟨h1, h2, sc u * 128 + p', by omega, ht, by omega, ?_, by rw [show (sc u * 128 + p') % 128 = p' by omega]; exact e⟩
    rw [hm h2]
    exact cb_5376 hw hc (by omega) ht
theorem rv_e {v : xV} {r a b m t : Nat} {g : Bool} (hw : wfg v) (hc : wfc v) (h80 : (plL v).length ≤ 80) (hm : r ≠ 0 → m = tN (stT v) b) : rvM v r a b m t g ↔ g = false ∧ r ≠ 0 ∧ ∃ p', nsT (stT v) b p' ∧ t = nEn (r, a, p') := by
  constructor
  · rintro ⟨h1, h2, y, y1, y2, y3, y4, y5⟩
    obtain ⟨u, u1, u2, u3⟩ := tY_to hw hc y2
    have := sc_lt4 u1
    exact ⟨h1, h2, _, ⟨u, by omega, u1, u3⟩, y5⟩
  · rintro ⟨h1, h2, p', ⟨u, u1, u2, u3⟩, e⟩
    have p1 := (stT_pl u3).2
    have l1 := sc_lt4 u2
    have l3 := sc_42 u2
    have ht := tY_of hw hc u2 (show p' < 128 by omega) u3
    refine ⟨h1, h2, sc u * 128 + p', by omega, ht, by omega, ?_, by rw [show (sc u * 128 + p') % 128 = p' by omega]; exact e⟩
    rw [hm h2]
    exact cb_5376 hw hc (by omega) ht
/-- all where a node leads -/
theorem eV_all {v : xV} {s a b m k t : Nat} {g : Bool} (hw : wfg v) (hc : wfc v) (h80 : (plL v).length ≤ 80) (hm : lfN v s b ≠ 0 → m = tN (stT v) a) (hk : rgN v s a ≠ 0 → k = tN (stT v) b) : eV v (s, a, b) t g ↔ (pvA v s a b t g ∨ lvM v (lfN v s b) a b m t g) ∨ rvM v (rgN v s a) a b k t g := by
  rw [pv_e hw hc h80, lv_e hw hc h80 hm, rv_e hw hc h80 hk]
  constructor
  · rintro ⟨⟨s', p', q'⟩, e, ⟨rfl, ⟨w1, w2, w3⟩ | ⟨w1, w2, w3⟩ | ⟨w1, w2⟩⟩ | ⟨rfl, w⟩⟩
    · have w1 := lf_iff.mp w1
      have w3 : q' = b := w3
      refine Or.inl (Or.inr ⟨rfl, w1.2, p', w2, ?_⟩)
      have w11 : lfN v s b = s' := w1.1
      rw [e, w3, w11]
    · have w1 := rg_iff.mp w1
      have w2 : p' = a := w2
      refine Or.inr ⟨rfl, w1.2, q', w3, ?_⟩
      have w11 : rgN v s a = s' := w1.1
      rw [e, w2, w11]
    · exact Or.inl (Or.inl ⟨_, e, Or.inl ⟨rfl, w1, w2⟩⟩)
    · exact Or.inl (Or.inl ⟨_, e, Or.inr ⟨rfl, w⟩⟩)
  · rintro ((⟨n', e, ⟨rfl, w1, w2⟩ | ⟨rfl, w⟩⟩ | ⟨rfl, w1, p', w2, e⟩) | ⟨rfl, w1, p', w2, e⟩)
    · exact ⟨n', e, Or.inl ⟨rfl, Or.inr (Or.inr ⟨w1, w2⟩)⟩⟩
    · exact ⟨n', e, Or.inr ⟨rfl, w⟩⟩
    · exact ⟨_, e, Or.inl ⟨rfl, Or.inl ⟨lf_iff.mpr ⟨rfl, w1⟩, w2, rfl⟩⟩⟩
    · exact ⟨_, e, Or.inl ⟨rfl, Or.inr (Or.inl ⟨rg_iff.mpr ⟨rfl, w1⟩, rfl, w2⟩)⟩⟩

