/-! ===== the k-th tree: which way a rank goes ===== -/
def sR (f : Nat → Nat) (x y k k1 : Nat) : Prop := x ≤ y ∧ k = sgm (fun e => f (x + e)) (y - x) + k1 ∧ k1 < f y
theorem sgm_le {f : Nat → Nat} {a b : Nat} (h : a ≤ b) : sgm f a ≤ sgm f b := by
  obtain ⟨d, rfl⟩ : ∃ d, b = a + d := ⟨b - a, by omega⟩
  clear h
  induction d with
  | zero => exact Nat.le_refl _
  | succ d ih =>
    rw [← Nat.add_assoc]
    simp only [sgm]
    omega
theorem sR_1 {f : Nat → Nat} {x y z k a b : Nat} (h : sR f x y k a) (h2 : sR f x z k b) : y = z ∧ a = b := by
  obtain ⟨p1, p2, p3⟩ := h
  obtain ⟨q1, q2, q3⟩ := h2
  have key : ∀ {y z a b : Nat}, x ≤ y → y < z → k = sgm (fun e => f (x + e)) (y - x) + a → a < f y → k = sgm (fun e => f (x + e)) (z - x) + b → False := by
    intro y z a b h1 h2 h3 h4 h5
    have := sgm_le (f := fun e => f (x + e)) (show y - x + 1 ≤ z - x by omega)
    simp only [sgm] at this
    rw [show x + (y - x) = y by omega] at this
    omega
  rcases Nat.lt_trichotomy y z with w | w | w
  · exact (key p1 w p2 p3 q2).elim
  · subst w; exact ⟨rfl, by omega⟩
  · exact (key q1 w q2 q3 p2).elim
/-- the ends of a rule's symbols from the d-th last on, and what rank is left -/
def pkR (S : Nat → Nat → Nat → Nat) (n j : Nat) : Nat → Nat → Nat → Nat → List Nat → Nat → Prop
  | 0, x, k, m, e, l => x = j ∧ k < m ∧ e = [] ∧ l = k
  | d + 1, x, k, m, e, l => ∃ y k1 e1, sR (fun y => S (n - (d + 1)) x y * rD S n j d y * m) x y k k1 ∧ y ≤ j ∧ e = y :: e1 ∧ pkR S n j d y k1 (m * S (n - (d + 1)) x y) e1 l
theorem pkR_1 {S : Nat → Nat → Nat → Nat} {n j : Nat} : ∀ {d x k m : Nat} {e f : List Nat} {l q : Nat}, pkR S n j d x k m e l → pkR S n j d x k m f q → e = f ∧ l = q
  | 0, _, _, _, _, _, _, _, h, h2 => ⟨h.2.2.1.trans h2.2.2.1.symm, h.2.2.2.trans h2.2.2.2.symm⟩
  | d + 1, _, _, _, _, _, _, _, ⟨y, k1, e1, a1, _, a2, a3⟩, ⟨z, k2, f1, b1, _, b2, b3⟩ => by
    obtain ⟨rfl, rfl⟩ := sR_1 a1 b1
    obtain ⟨rfl, rfl⟩ := pkR_1 a3 b3
    exact ⟨a2.trans b2.symm, rfl⟩
theorem pkR_le {S : Nat → Nat → Nat → Nat} {n j : Nat} : ∀ {d x k m : Nat} {e : List Nat} {l : Nat}, pkR S n j d x k m e l → l ≤ k
  | 0, _, _, _, _, _, h => Nat.le_of_eq h.2.2.2
  | d + 1, _, _, _, _, _, ⟨y, k1, e1, a1, _, a2, a3⟩ => by
    have := pkR_le a3
    have := a1.2.1
    omega
/-- ends by number, the begin first -/
def enE (i : Nat) (e : List Nat) (t : Nat) : Nat := (i :: e).getD t 0
abbrev nD : Type := Nat × Nat × Nat × Nat × Nat
/-- what is below a rule, from its last symbol on: the first on top -/
def kdF (S : Nat → Nat → Nat → Nat) (sy : Nat → Nat) (n i j v : Nat) (E : Nat → Nat) (l : Nat) : Nat → List nD × Nat
  | 0 => ([], l)
  | c + 1 => if sy (n - (c + 1)) < 8 then kdF S sy n i j v E l c else ((sy (n - (c + 1)) - 8, E (n - (c + 1)), E (n - (c + 1) + 1), if E (n - (c + 1)) = i ∧ E (n - (c + 1) + 1) = j then v else 0, (kdF S sy n i j v E l c).2 % S (n - (c + 1)) (E (n - (c + 1))) (E (n - (c + 1) + 1))) :: (kdF S sy n i j v E l c).1, (kdF S sy n i j v E l c).2 / S (n - (c + 1)) (E (n - (c + 1))) (E (n - (c + 1) + 1)))
def rwF (g : xV) (ρ : Nat → Nat) (i j v k : Nat) (r : Nat) : Nat := if vrk g r = k then wW (fun t => pvS g ρ i j v (vsy g r t)) (vrs g r) i j else 0
def kids (g : xV) (ρ : Nat → Nat) (i j v r : Nat) (e : List Nat) (l : Nat) : List nD := (kdF (fun t => pvS g ρ i j v (vsy g r t)) (vsy g r) (vrs g r) i j v (enE i e) l (vrs g r)).1
def stR (g : xV) (ρ : Nat → Nat) (d : nD) (r : Nat) (cs : List nD) : Prop := ∃ a e l, sR (rwF g ρ d.2.1 d.2.2.1 (d.2.2.2.1 + p3 d.1) d.1) 0 r d.2.2.2.2 a ∧ r < vR g ∧ pkR (fun t => pvS g ρ d.2.1 d.2.2.1 (d.2.2.2.1 + p3 d.1) (vsy g r t)) (vrs g r) d.2.2.1 (vrs g r) d.2.1 a 1 e l ∧ cs = kids g ρ d.2.1 d.2.2.1 (d.2.2.2.1 + p3 d.1) r e l
theorem stR_1 {g : xV} {ρ : Nat → Nat} {d : nD} {r q : Nat} {cs ds : List nD} (h : stR g ρ d r cs) (h2 : stR g ρ d q ds) : r = q ∧ cs = ds := by
  obtain ⟨a, e, l, a1, _, a2, a3⟩ := h
  obtain ⟨b, f, m, b1, _, b2, b3⟩ := h2
  obtain ⟨rfl, rfl⟩ := sR_1 a1 b1
  obtain ⟨rfl, rfl⟩ := pkR_1 a2 b2
  exact ⟨rfl, a3.trans b3.symm⟩
/-- after so many rules: what is on the pile, which rules -/
def rnR (g : xV) (ρ : Nat → Nat) (d0 : nD) : Nat → List nD → List Nat → Prop
  | 0, st, out => st = [d0] ∧ out = []
  | m + 1, st, out => ∃ d rest o1 r cs, rnR g ρ d0 m (d :: rest) o1 ∧ stR g ρ d r cs ∧ st = cs ++ rest ∧ out = o1 ++ [r]
theorem rnR_1 {g : xV} {ρ : Nat → Nat} {d0 : nD} : ∀ {m : Nat} {st su : List nD} {o p : List Nat}, rnR g ρ d0 m st o → rnR g ρ d0 m su p → st = su ∧ o = p
  | 0, _, _, _, _, h, h2 => ⟨h.1.trans h2.1.symm, h.2.trans h2.2.symm⟩
  | m + 1, _, _, _, _, ⟨d, rest, o1, r, cs, a1, a2, a3, a4⟩, ⟨e, rest2, p1, q, ds, b1, b2, b3, b4⟩ => by
    obtain ⟨w1, rfl⟩ := rnR_1 a1 b1
    cases w1
    obtain ⟨rfl, rfl⟩ := stR_1 a2 b2
    exact ⟨a3.trans b3.symm, a4.trans b4.symm⟩
theorem rnR_len {g : xV} {ρ : Nat → Nat} {d0 : nD} : ∀ {m : Nat} {st : List nD} {o : List Nat}, rnR g ρ d0 m st o → o.length = m
  | 0, _, _, h => by rw [h.2]; rfl
  | m + 1, _, _, ⟨d, rest, o1, r, cs, a1, a2, a3, a4⟩ => by rw [a4, List.length_append, rnR_len a1]; rfl
/-- a later state comes out of an earlier one; what is told and what waits grow together -/
theorem rnR_up {g : xV} {ρ : Nat → Nat} {d0 : nD} {m : Nat} {st : List nD} {o : List Nat} (h : rnR g ρ d0 m st o) : ∀ {t : Nat} {su : List nD} {p : List Nat}, rnR g ρ d0 (m + t) su p → m + st.length ≤ m + t + su.length
  | 0, _, _, h2 => by
    obtain ⟨rfl, -⟩ := rnR_1 h h2
    exact Nat.le_refl _
  | t + 1, _, _, ⟨d, rest, o1, r, cs, a1, a2, a3, a4⟩ => by
    have := rnR_up h (t := t) a1
    rw [a3, List.length_append]
    simp only [List.length_cons] at this
    omega
theorem rnR_end {g : xV} {ρ : Nat → Nat} {d0 : nD} {m t : Nat} {st : List nD} {o p : List Nat} (h : rnR g ρ d0 m st o) (h2 : rnR g ρ d0 t [] p) (hne : st ≠ []) : m < t := by
  rcases Nat.lt_or_ge m t with w | w
  · exact w
  · exfalso
    have key : ∀ c (st : List nD) (o : List Nat), rnR g ρ d0 (t + c) st o → st = [] := by
      intro c
      induction c with
      | zero => intro st o h3; exact (rnR_1 h3 h2).1
      | succ c ih =>
        rintro st o ⟨d, rest, o1, r, cs, a1, -⟩
        have := ih _ _ a1
        cases this
    exact hne (key (m - t) st o (by rw [show t + (m - t) = m by omega]; exact h))
/-- the tree that was asked for: its rules, if they are no more than 600 -/
def treeR (g : xV) (ρ : Nat → Nat) (d0 : nD) (out : List Nat) : Prop := out.length ≤ 600 ∧ rnR g ρ d0 out.length [] out
theorem treeR_1 {g : xV} {ρ : Nat → Nat} {d0 : nD} {o p : List Nat} (h : treeR g ρ d0 o) (h2 : treeR g ρ d0 p) : o = p := by
  obtain ⟨_, a⟩ := h
  obtain ⟨_, b⟩ := h2
  have e : o.length = p.length := by
    rcases Nat.lt_trichotomy o.length p.length with w | w | w
    · exfalso
      have key : ∀ c, 0 < c → ∀ (st : List nD) (q : List Nat), ¬ rnR g ρ d0 (o.length + c) st q := by
        intro c
        induction c with
        | zero => intro h; omega
        | succ c ih =>
          rintro - st q ⟨d, rest, o1, r, cs, a1, -⟩
          by_cases z : c = 0
          · subst z
            have := (rnR_1 a1 a).1
            cases this
          · exact ih (by omega) _ _ a1
      exact key (p.length - o.length) (by omega) [] p (by rw [show o.length + (p.length - o.length) = p.length by omega]; exact b)
    · exact w
    · exfalso
      have key : ∀ c, 0 < c → ∀ (st : List nD) (q : List Nat), ¬ rnR g ρ d0 (p.length + c) st q := by
        intro c
        induction c with
        | zero => intro h; omega
        | succ c ih =>
          rintro - st q ⟨d, rest, o1, r, cs, a1, -⟩
          by_cases z : c = 0
          · subst z
            have := (rnR_1 a1 b).1
            cases this
          · exact ih (by omega) _ _ a1
      exact key (o.length - p.length) (by omega) [] o (by rw [show p.length + (o.length - p.length) = o.length by omega]; exact a)
  rw [e] at a
  exact (rnR_1 a b).2
/-- nothing comes of a state too late, or too wide -/
theorem treeR_no {g : xV} {ρ : Nat → Nat} {d0 : nD} {m : Nat} {st : List nD} {o out : List Nat} (h : rnR g ρ d0 m st o) (hne : st ≠ []) (hm : 600 < m + st.length) (h2 : treeR g ρ d0 out) : False := by
  have h3 := rnR_end h h2.2 hne
  have h4 := rnR_up h (t := out.length - m) (su := []) (p := out) (by rw [show m + (out.length - m) = out.length by omega]; exact h2.2)
  have := h2.1
  simp only [List.length_nil] at h4
  omega
/-- a node that has a tree of its rank -/
def ndO (g : xV) (ρ : Nat → Nat) (n : Nat) (d : nD) : Prop := d.1 < vK g ∧ d.2.1 ≤ d.2.2.1 ∧ d.2.2.1 ≤ n ∧ d.2.2.2.1 ≤ fullN g ∧ d.2.2.2.2 < tW g ρ d.2.2.2.1 d.1 d.2.1 d.2.2.1 ∧ d.2.2.2.2 ≤ 9998
theorem dgt_K2 {K v k : Nat} (hK : K < 6) (hv : v < p3 K) (hk : k < K) (h : dgt v k ≠ 2) : v + p3 k < p3 K := dgt_K K hK v hv k hk h
/-- at a digit full nothing is left -/
theorem tW_2 {g : xV} (hw : wfg g) {ρ : Nat → Nat} {v k i j : Nat} (hv : v < 243) (hk : k < 5) (h : dgt v k = 2) : tW g ρ v k i j = 0 := by
  unfold tW
  split
  · rw [eW_eq hw hv hk, if_pos h]
  · exact sgm_z fun m _ => by rw [cW_eq hv hk, if_pos h, Nat.zero_mul]
theorem ndO_v {g : xV} (hw : wfg g) {ρ : Nat → Nat} {n : Nat} {d : nD} (h : ndO g ρ n d) : dgt d.2.2.2.1 d.1 ≠ 2 ∧ d.2.2.2.1 + p3 d.1 ≤ fullN g ∧ d.2.2.2.1 < 243 := by
  obtain ⟨h1, h2, h3, h4, h5, h6⟩ := h
  have h7 := hw.2.1
  have hf := full_le hw
  have hv : d.2.2.2.1 < 243 := by unfold fullN at h4; omega
  have hd : dgt d.2.2.2.1 d.1 ≠ 2 := fun q => by
    rw [tW_2 hw hv (by omega) q] at h5
    omega
  refine ⟨hd, ?_, hv⟩
  have := dgt_K2 (K := vK g) (by omega) (show d.2.2.2.1 < p3 (vK g) by unfold fullN at h4; omega) h1 hd
  unfold fullN
  omega
/-- its rank is one of its rules' ways -/
theorem ndO_r {g : xV} (hw : wfg g) {ρ : Nat → Nat} {n : Nat} {d : nD} (h : ndO g ρ n d) : d.2.2.2.2 < sgm (rwF g ρ d.2.1 d.2.2.1 (d.2.2.2.1 + p3 d.1) d.1) (vR g) := by
  obtain ⟨hd, -, hv⟩ := ndO_v hw h
  have h7 := hw.2.1
  have := tW_rules hw (ρ := ρ) h.2.1 hv (show d.1 < 5 by have := h.1; omega) hd
  unfold kwS at this
  show _ < sgm (fun r => if vrk g r = d.1 then _ else 0) _
  rw [this]
  exact h.2.2.2.2.1

