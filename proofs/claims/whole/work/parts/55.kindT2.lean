/-! follows -/
theorem flT_k {v : xV} {em : Int32} {bg g : Nat → Int32} {r t k : Nat} : flT v em bg r g (t + 1) k = if vsy v r t < 8 then flT v em bg r g t k else if k = vsy v r t - 8 then flT v em bg r g t k ||| bF v r em bg (vrs v r - (t + 1)) (t + 1) ||| (if eF v r em (vrs v r - (t + 1)) (t + 1) = true then flT v em bg r g t (vrk v r) else 0) else flT v em bg r g t k := by
  simp only [flT]
  by_cases h : vsy v r t < 8
  · rw [if_pos h, if_pos h]
  · rw [if_neg h, if_neg h]
theorem isT_k {v : xV} {em : Int32} {r : Nat} {g : Nat → Int32} {t k : Nat} : isT' v em r g (t + 1) k = if 8 ≤ vsy v r t ∧ wi v r em false t = true then (if k = vrk v r then isT' v em r g t k ||| bit (vsy v r t - 8) else isT' v em r g t k) else isT' v em r g t k := by
  simp only [isT']
  by_cases h : 8 ≤ vsy v r t ∧ wi v r em false t = true
  · rw [if_pos h, if_pos h]
  · rw [if_neg h, if_neg h]
theorem flT_low {v : xV} (hw : wfg v) {em : Int32} {bg g : Nat → Int32} (hb : low4 bg) (hg : low4 g) {r : Nat} (hr : r < vR v) : ∀ t, t ≤ vrs v r → low4 (flT v em bg r g t)
  | 0, _ => hg
  | t + 1, ht => fun k hk => by
    have ih := flT_low hw (em := em) hb hg hr t (by omega)
    have hk2 := wf_r hw hr
    rw [flT_k]
    split
    · exact ih k hk
    · split
      · refine low_or (low_or (ih k hk) (bF_low hw hb hr _ _ (by omega))) ?_
        split
        · exact ih _ (by omega)
        · exact low_0
      · exact ih k hk
theorem flT_sub {v : xV} {em : Int32} {bg g : Nat → Int32} {r : Nat} (k : Nat) : ∀ t, sub (g k) (flT v em bg r g t k)
  | 0 => sub_rf
  | t + 1 => by
    rw [flT_k]
    split
    · exact flT_sub k t
    · split
      · exact sub_tr (flT_sub k t) (sub_tr sub_or sub_or)
      · exact flT_sub k t
theorem flT_out {v : xV} (hw : wfg v) {em : Int32} {bg g : Nat → Int32} {r : Nat} (hr : r < vR v) {k : Nat} (hk : 5 ≤ k) : ∀ t, t ≤ vrs v r → flT v em bg r g t k = g k
  | 0, _ => rfl
  | t + 1, ht => by
    have hs := wf_s hw hr (show t < vrs v r by omega)
    rw [flT_k]
    split
    · exact flT_out hw hr hk t (by omega)
    · rw [if_neg (by omega), flT_out hw hr hk t (by omega)]
theorem flR_low {v : xV} (hw : wfg v) {em mk : Int32} {bg g : Nat → Int32} (hb : low4 bg) (hg : low4 g) : ∀ r, r ≤ vR v → low4 (flR v em bg mk g r)
  | 0, _ => hg
  | r + 1, hr => by
    have ih := flR_low hw (em := em) (mk := mk) hb hg r (by omega)
    simp only [flR]
    split
    · exact flT_low hw hb ih (by omega) _ (Nat.le_refl _)
    · exact ih
theorem flR_sub {v : xV} {em mk : Int32} {bg g : Nat → Int32} (k : Nat) : ∀ r, sub (g k) (flR v em bg mk g r k)
  | 0 => sub_rf
  | r + 1 => by
    simp only [flR]
    split
    · exact sub_tr (flR_sub k r) (flT_sub k _)
    · exact flR_sub k r
theorem flR_out {v : xV} (hw : wfg v) {em mk : Int32} {bg g : Nat → Int32} {k : Nat} (hk : 5 ≤ k) : ∀ r, r ≤ vR v → flR v em bg mk g r k = g k
  | 0, _ => rfl
  | r + 1, hr => by
    simp only [flR]
    split
    · rw [flT_out hw (by omega) hk _ (Nat.le_refl _), flR_out hw hk r (by omega)]
    · exact flR_out hw hk r (by omega)
def le5 (g h : Nat → Int32) : Prop := ∀ k, k < 5 → sub (g k) (h k)
theorem sub_orr {a b c d : Int32} (h : sub a c) (h2 : sub b d) : sub (a ||| b) (c ||| d) := sub_o2 (sub_tr h sub_or) (sub_tr h2 sub_or2)
/-- more in, more out -/
theorem flT_mono {v : xV} (hw : wfg v) {em : Int32} {b g h : Nat → Int32} (e : le5 g h) {r : Nat} (hr : r < vR v) : ∀ t, t ≤ vrs v r → le5 (flT v em b r g t) (flT v em b r h t)
  | 0, _ => e
  | t + 1, ht => fun k hk => by
    have ih := flT_mono hw (em := em) (b := b) e hr t (by omega)
    have hk2 := wf_r hw hr
    rw [flT_k, flT_k]
    by_cases q : vsy v r t < 8
    · rw [if_pos q, if_pos q]; exact ih k hk
    · rw [if_neg q, if_neg q]
      by_cases q2 : k = vsy v r t - 8
      · rw [if_pos q2, if_pos q2]
        refine sub_orr (sub_orr (ih k hk) sub_rf) ?_
        split
        · exact ih _ (by omega)
        · exact sub_rf
      · rw [if_neg q2, if_neg q2]; exact ih k hk
theorem flR_mono {v : xV} (hw : wfg v) {em mk mk2 : Int32} {b g h : Nat → Int32} (em2 : sub mk mk2) (e : le5 g h) : ∀ r, r ≤ vR v → le5 (flR v em b mk g r) (flR v em b mk2 h r)
  | 0, _ => e
  | r + 1, hr => fun k hk => by
    have ih := flR_mono hw (em := em) (b := b) em2 e r (by omega)
    have hk2 := wf_r hw (show r < vR v by omega)
    simp only [flR]
    by_cases q : tst mk (vrk v r) = true
    · rw [if_pos q, if_pos (em2 _ (by omega) q)]
      exact flT_mono hw ih (by omega) _ (Nat.le_refl _) k hk
    · rw [if_neg q]
      split
      · exact sub_tr (ih k hk) (flT_sub k _)
      · exact ih k hk
theorem wi_31 {v : xV} (hw : wfg v) {r : Nat} (hr : r < vR v) : wi v r 31 true 99 = true := by
  have key : ∀ t, t ≤ vrs v r → wiF v r 31 true 99 t = true := fun t => by
    induction t with
    | zero => intro _; rfl
    | succ t ih =>
      intro ht
      have hs := wf_s hw hr (show t < vrs v r by omega)
      have b : ∀ k, k < 5 → tst 31 k = true := by decide +kernel
      simp only [wiF]
      rw [ih (by omega)]
      split
      · simp
      · rw [b _ (by omega)]; simp
  exact key _ (Nat.le_refl _)
theorem fpR_1 {v : xV} (hw : wfg v) {em : Int32} {bg : Nat → Int32} {p : Int32 × (Nat → Int32)} : ∀ r, r ≤ vR v → (fpR v em bg p r).1 = mdF v 31 p.1 r
  | 0, _ => rfl
  | r + 1, hr => by
    have ih := fpR_1 hw (em := em) (bg := bg) (p := p) r (by omega)
    simp only [fpR, mdF]
    rw [ih, wi_31 hw (by omega), Bool.and_true]
    split
    · rfl
    · exact ih
theorem fpR_2 {v : xV} (hw : wfg v) {em mk : Int32} {bg : Nat → Int32} {p : Int32 × (Nat → Int32)} {g : Nat → Int32} (hm : sub (mdF v 31 p.1 (vR v)) mk) (hg : le5 p.2 g) : ∀ r, r ≤ vR v → le5 (fpR v em bg p r).2 (flR v em bg mk g r)
  | 0, _ => hg
  | r + 1, hr => fun k hk => by
    have ih := fpR_2 hw (em := em) (bg := bg) hm hg r (by omega)
    have hk2 := wf_r hw (show r < vR v by omega)
    simp only [fpR, flR]
    rw [fpR_1 hw r (by omega)]
    by_cases q : tst (mdF v 31 p.1 r) (vrk v r) = true
    · rw [if_pos q, if_pos (hm _ (by omega) (mdF_up (v := v) (vR v) (by omega) _ (by omega) q))]
      exact flT_mono hw ih (by omega) _ (Nat.le_refl _) k hk
    · rw [if_neg q]
      split
      · exact sub_tr (ih k hk) (flT_sub k _)
      · exact ih k hk
/-- with all made kinds known a round is the class's -/
theorem fpR_3 {v : xV} (hw : wfg v) {em mk : Int32} {bg g : Nat → Int32} (hm : md v 31 mk = mk) : ∀ r, r ≤ vR v → fpR v em bg (mk, g) r = (mk, flR v em bg mk g r)
  | 0, _ => rfl
  | r + 1, hr => by
    have ih := fpR_3 hw (em := em) (bg := bg) (g := g) hm r (by omega)
    have h1 := fpR_1 hw (em := em) (bg := bg) (p := (mk, g)) (r + 1) (by omega)
    have h2 : mdF v 31 mk (r + 1) = mk := sub_eq (by
      have := mdF_up (v := v) (le := 31) (x := mk) (r := r + 1) (vR v) hr
      have hm' : mdF v 31 mk (vR v) = mk := hm
      rw [hm'] at this; exact this) (mdF_sub _)
    refine Prod.ext (h1.trans h2) ?_
    simp only [fpR, flR]
    rw [ih]
    split <;> rfl
/-! endless -/
def edg (v : xV) (j m : Nat) : Prop := tst (isRf v (EM v) (fun _ => 0) (vR v) j) m = true
def pth (R : Nat → Nat → Prop) : Nat → Nat → Nat → Prop
  | 0, j, k => R j k
  | n + 1, j, k => ∃ m, R j m ∧ pth R n m k
theorem pth_tr {R : Nat → Nat → Prop} : ∀ n i j k, pth R n i j → ∀ m, pth R m j k → ∃ l, pth R l i k
  | 0, _, _, _, h, m, h2 => ⟨m + 1, _, h, h2⟩
  | n + 1, i, j, k, ⟨q, h, h3⟩, m, h2 => by
    obtain ⟨l, hl⟩ := pth_tr n q j k h3 m h2
    exact ⟨l + 1, q, h, hl⟩
/-- an edge: a rule of the one that has the other, all else being empty -/
theorem isT_iff {v : xV} (hw : wfg v) {em : Int32} {r : Nat} (hr : r < vR v) {g : Nat → Int32} {j m : Nat} (hm : m < 32) : ∀ t, t ≤ vrs v r → (tst (isT' v em r g t j) m = true ↔ tst (g j) m = true ∨ ∃ u, u < t ∧ vrk v r = j ∧ 8 ≤ vsy v r u ∧ wi v r em false u = true ∧ vsy v r u - 8 = m)
  | 0, _ => by
    simp only [isT']
    exact ⟨Or.inl, fun h => h.elim id fun ⟨u, q, _⟩ => absurd q (Nat.not_lt_zero u)⟩
  | t + 1, ht => by
    have ih := isT_iff hw (em := em) hr (g := g) (j := j) hm t (by omega)
    have hs := wf_s hw hr (show t < vrs v r by omega)
    rw [isT_k]
    by_cases q : 8 ≤ vsy v r t ∧ wi v r em false t = true
    · rw [if_pos q]
      by_cases q2 : j = vrk v r
      · rw [if_pos q2, tst_or, Bool.or_eq_true, ih, tst_bit (by omega) hm, decide_eq_true_eq]
        constructor
        · rintro ((h | ⟨u, h1, h2⟩) | h)
          · exact Or.inl h
          · exact Or.inr ⟨u, by omega, h2⟩
          · exact Or.inr ⟨t, by omega, q2.symm, q.1, q.2, h⟩
        · rintro (h | ⟨u, h1, h2, h3, h4, h5⟩)
          · exact Or.inl (Or.inl h)
          · rcases Nat.lt_or_ge u t with w | w
            · exact Or.inl (Or.inr ⟨u, w, h2, h3, h4, h5⟩)
            · rw [show u = t by omega] at h5; exact Or.inr h5
      · rw [if_neg q2, ih]
        constructor
        · rintro (h | ⟨u, h1, h2⟩)
          · exact Or.inl h
          · exact Or.inr ⟨u, by omega, h2⟩
        · rintro (h | ⟨u, h1, h2, h3⟩)
          · exact Or.inl h
          · exact absurd h2.symm q2
    · rw [if_neg q, ih]
      constructor
      · rintro (h | ⟨u, h1, h2⟩)
        · exact Or.inl h
        · exact Or.inr ⟨u, by omega, h2⟩
      · rintro (h | ⟨u, h1, h2, h3, h4, h5⟩)
        · exact Or.inl h
        · rcases Nat.lt_or_ge u t with w | w
          · exact Or.inr ⟨u, w, h2, h3, h4, h5⟩
          · rw [show u = t by omega] at h3 h4; exact absurd ⟨h3, h4⟩ q
theorem isR_iff {v : xV} (hw : wfg v) {em : Int32} {j m : Nat} (hm : m < 32) : ∀ r, r ≤ vR v → (tst (isRf v em (fun _ => 0) r j) m = true ↔ ∃ q u, q < r ∧ u < vrs v q ∧ vrk v q = j ∧ 8 ≤ vsy v q u ∧ wi v q em false u = true ∧ vsy v q u - 8 = m)
  | 0, _ => by
    simp only [isRf]
    rw [tst_0]
    exact ⟨fun h => (by cases h), fun ⟨q, _, h, _⟩ => absurd h (Nat.not_lt_zero q)⟩
  | r + 1, hr => by
    have ih := isR_iff hw (em := em) (j := j) hm r (by omega)
    simp only [isRf]
    rw [isT_iff hw (by omega) hm _ (Nat.le_refl _), ih]
    constructor
    · rintro (⟨q, u, h1, h2⟩ | ⟨u, h1, h2⟩)
      · exact ⟨q, u, by omega, h2⟩
      · exact ⟨r, u, by omega, h1, h2⟩
    · rintro ⟨q, u, h1, h2⟩
      rcases Nat.lt_or_ge q r with w | w
      · exact Or.inl ⟨q, u, w, h2⟩
      · rw [show q = r by omega] at h2; exact Or.inr ⟨u, h2⟩
/-- one round of the class's closure -/
theorem waK_iff {w : Nat} (hw5 : w < 32) {g : Nat → Int32} {m : Nat} (hm : m < 32) : ∀ k j, (tst (waK w g k j) m = true ↔ tst (g j) m = true ∨ (j < k ∧ tst (g j) w = true ∧ tst (g w) m = true))
  | 0, j => ⟨Or.inl, fun h => h.elim id fun q => absurd q.1 (Nat.not_lt_zero j)⟩
  | k + 1, j => by
    have ih := fun m hm j => waK_iff hw5 (g := g) (m := m) hm k j
    simp only [waK]
    by_cases e : j = k
    · subst e
      rw [if_pos rfl, tst_or, Bool.or_eq_true, ih m hm]
      by_cases q : tst (waK w g j j) w = true
      · rw [if_pos q]
        rw [ih w hw5] at q
        rw [ih m hm]
        constructor
        · rintro ((h | h) | (h | h))
          · exact Or.inl h
          · omega
          · rcases q with q | q
            · exact Or.inr ⟨by omega, q, h⟩
            · omega
          · rcases q with q | q
            · exact Or.inr ⟨by omega, q, h.2.2⟩
            · omega
        · rintro (h | ⟨h1, h2, h3⟩)
          · exact Or.inl (Or.inl h)
          · exact Or.inr (Or.inl h3)
      · rw [if_neg q, tst_0]
        rw [ih w hw5] at q
        constructor
        · rintro ((h | h) | h)
          · exact Or.inl h
          · omega
          · cases h
        · rintro (h | ⟨h1, h2, h3⟩)
          · exact Or.inl (Or.inl h)
          · exact absurd (Or.inl h2) q
    · rw [if_neg e, ih m hm]
      constructor
      · rintro (h | ⟨h1, h2⟩)
        · exact Or.inl h
        · exact Or.inr ⟨by omega, h2⟩
      · rintro (h | ⟨h1, h2⟩)
        · exact Or.inl h
        · exact Or.inr ⟨by omega, h2⟩
theorem waV_in {K : Nat} (hK : K ≤ 5) {g : Nat → Int32} {j m : Nat} (hm : m < 32) (h : tst (g j) m = true) : ∀ w, w ≤ 5 → tst (waV K g w j) m = true
  | 0, _ => h
  | w + 1, hw => (waK_iff (by omega) hm K j).mpr (Or.inl (waV_in hK hm h w (by omega)))
theorem waV_pth {K : Nat} {g : Nat → Int32} : ∀ w, w ≤ 5 → ∀ j m, m < 32 → tst (waV K g w j) m = true → ∃ n, pth (fun a b => tst (g a) b = true) n j m
  | 0, _, j, m, _, h => ⟨0, h⟩
  | w + 1, hw, j, m, hm, h => by
    rcases (waK_iff (by omega) hm K j).mp h with h | ⟨_, h1, h2⟩
    · exact waV_pth w (by omega) j m hm h
    · obtain ⟨a, ha⟩ := waV_pth w (by omega) j w (by omega) h1
      obtain ⟨b, hb⟩ := waV_pth w (by omega) w m hm h2
      exact pth_tr a j w m ha b hb
theorem waV_tr {K : Nat} {g : Nat → Int32} : ∀ w, w ≤ 5 → w ≤ K → ∀ i j m, i < K → m < 32 → j < w → tst (waV K g w i) j = true → tst (waV K g w j) m = true → tst (waV K g w i) m = true
  | 0, _, _, _, j, _, _, _, hj, _, _ => absurd hj (Nat.not_lt_zero j)
  | w + 1, hw, hK, i, j, m, hi, hm, hj, h1, h2 => by
    have ih := waV_tr (K := K) (g := g) w (by omega) (by omega)
    have f := fun j m (hm : m < 32) => waK_iff (w := w) (by omega) (g := waV K g w) (m := m) hm K j
    have h1 := (f i j (by omega)).mp h1
    have h2 := (f j m hm).mp h2
    refine (f i m hm).mpr ?_
    rcases Nat.lt_or_ge j w with q | q
    · rcases h1 with a | ⟨_, a, b⟩
      · rcases h2 with c | ⟨_, c, d⟩
        · exact Or.inl (ih i j m hi hm q a c)
        · exact Or.inr ⟨hi, ih i j w hi (by omega) q a c, d⟩
      · rcases h2 with c | ⟨_, c, d⟩
        · exact Or.inr ⟨hi, a, ih w j m (by omega) hm q b c⟩
        · exact Or.inr ⟨hi, a, d⟩
    · have e : j = w := by omega
      subst e
      have a : tst (waV K g j i) j = true := by
        rcases h1 with a | ⟨_, a, b⟩
        · exact a
        · exact a
      have c : tst (waV K g j j) m = true := by
        rcases h2 with c | ⟨_, c, d⟩
        · exact c
        · exact d
      exact Or.inr ⟨hi, a, c⟩
theorem enT_iff {v : xV} {em : Int32} {r : Nat} {c : Int32} (hw : wfg v) (hr : r < vR v) {m : Nat} (hm : m < 32) : ∀ t, t ≤ vrs v r → (tst (enT v em r c t) m = true ↔ tst c m = true ∨ ∃ u, u < t ∧ 8 ≤ vsy v r u ∧ wi v r em false u = true ∧ vsy v r u - 8 = m)
  | 0, _ => ⟨Or.inl, fun h => h.elim id fun ⟨u, q, _⟩ => absurd q (Nat.not_lt_zero u)⟩
  | t + 1, ht => by
    have ih := enT_iff (em := em) (c := c) hw hr hm t (by omega)
    have hs := wf_s hw hr (show t < vrs v r by omega)
    simp only [enT]
    by_cases q : 8 ≤ vsy v r t ∧ wi v r em false t = true
    · rw [if_pos q, tst_or, Bool.or_eq_true, ih, tst_bit (by omega) hm, decide_eq_true_eq]
      constructor
      · rintro ((h | ⟨u, h1, h2⟩) | h)
        · exact Or.inl h
        · exact Or.inr ⟨u, by omega, h2⟩
        · exact Or.inr ⟨t, by omega, q.1, q.2, h⟩
      · rintro (h | ⟨u, h1, h2, h3, h4⟩)
        · exact Or.inl (Or.inl h)
        · rcases Nat.lt_or_ge u t with w | w
          · exact Or.inl (Or.inr ⟨u, w, h2, h3, h4⟩)
          · rw [show u = t by omega] at h4; exact Or.inr h4
    · rw [if_neg q, ih]
      constructor
      · rintro (h | ⟨u, h1, h2⟩)
        · exact Or.inl h
        · exact Or.inr ⟨u, by omega, h2⟩
      · rintro (h | ⟨u, h1, h2, h3, h4⟩)
        · exact Or.inl h
        · rcases Nat.lt_or_ge u t with w | w
          · exact Or.inr ⟨u, w, h2, h3, h4⟩
          · rw [show u = t by omega] at h2 h3; exact absurd ⟨h2, h3⟩ q
theorem enT_sub {v : xV} {em : Int32} {r : Nat} {c : Int32} : ∀ t, sub c (enT v em r c t)
  | 0 => sub_rf
  | t + 1 => by
    simp only [enT]
    split
    · exact sub_tr (enT_sub t) sub_or
    · exact enT_sub t
theorem enR_up {v : xV} {em : Int32} {k : Nat} {c : Int32} {r : Nat} : ∀ q, r ≤ q → sub (enR v em k c r) (enR v em k c q)
  | 0, h => by rw [show r = 0 by omega]; exact sub_rf
  | q + 1, h => by
    rcases Nat.lt_or_ge q r with w | w
    · rw [show r = q + 1 by omega]; exact sub_rf
    · refine sub_tr (enR_up q w) ?_
      simp only [enR]
      split
      · exact enT_sub _
      · exact sub_rf
theorem enT_low {v : xV} (hw : wfg v) {em : Int32} {r : Nat} (hr : r < vR v) {c : Int32} (hc : low 5 c) : ∀ t, t ≤ vrs v r → low 5 (enT v em r c t)
  | 0, _ => hc
  | t + 1, ht => by
    have hs := wf_s hw hr (show t < vrs v r by omega)
    simp only [enT]
    split
    · exact low_or (enT_low hw hr hc t (by omega)) (low_bit (by omega) (by omega))
    · exact enT_low hw hr hc t (by omega)
theorem enR_low {v : xV} (hw : wfg v) {em : Int32} {k : Nat} {c : Int32} (hc : low 5 c) : ∀ r, r ≤ vR v → low 5 (enR v em k c r)
  | 0, _ => hc
  | r + 1, hr => by
    have ih := enR_low hw (em := em) (k := k) hc r (by omega)
    simp only [enR]
    split
    · exact enT_low hw (by omega) ih _ (Nat.le_refl _)
    · exact ih
theorem enR_pth {v : xV} (hw : wfg v) {k : Nat} {c : Int32} (hc : ∀ m, m < 32 → tst c m = true → ∃ n, pth (edg v) n k m) : ∀ r, r ≤ vR v → ∀ m, m < 32 → tst (enR v (EM v) k c r) m = true → ∃ n, pth (edg v) n k m
  | 0, _ => hc
  | r + 1, hr => fun m hm h => by
    have ih := enR_pth hw hc r (by omega)
    have hk := wf_r hw (show r < vR v by omega)
    simp only [enR] at h
    split at h
    · rename_i q
      rcases (enT_iff hw (by omega) hm _ (Nat.le_refl _)).mp h with h | ⟨u, h1, h2, h3, h4⟩
      · exact ih m hm h
      · have e : edg v (vrk v r) m := (isR_iff hw hm _ (Nat.le_refl _)).mpr ⟨r, u, by omega, h1, rfl, h2, h3, h4⟩
        rcases q with q | q
        · exact ⟨0, by rw [← q]; exact e⟩
        · obtain ⟨n, hn⟩ := ih _ (by omega) q
          exact pth_tr n k (vrk v r) m hn 0 e
    · exact ih m hm h
theorem enF_iff {g : Nat → Int32} {m : Nat} (hm : m < 32) : ∀ k, k ≤ 32 → (tst (enF g k) m = true ↔ m < k ∧ tst (g m) m = true)
  | 0, _ => by
    show tst 0 m = true ↔ _
    rw [tst_0]
    exact ⟨fun h => (by cases h), fun h => absurd h.1 (Nat.not_lt_zero m)⟩
  | k + 1, hk => by
    have ih := enF_iff (g := g) hm k (by omega)
    have an : tst (g k &&& bit k) m = (tst (g k) m && decide (k = m)) := by
      have e : tst (g k &&& bit k) m = (tst (g k) m && tst (bit k) m) := by
        unfold tst
        show ((g k).toBitVec &&& (bit k).toBitVec).getLsbD m = _
        rw [BitVec.getLsbD_and]
      rw [e, tst_bit (by omega) hm]
    simp only [enF]
    rw [tst_or, Bool.or_eq_true, ih, an, Bool.and_eq_true, decide_eq_true_eq]
    constructor
    · rintro (⟨a, b⟩ | ⟨a, b⟩)
      · exact ⟨by omega, b⟩
      · exact ⟨by omega, by rw [← b] at a ⊢; exact a⟩
    · rintro ⟨a, b⟩
      rcases Nat.lt_or_ge m k with w | w
      · exact Or.inl ⟨w, b⟩
      · have : k = m := by omega
        subst this
        exact Or.inr ⟨b, rfl⟩

