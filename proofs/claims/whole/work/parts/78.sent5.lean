/-! ===== what the machine keeps ===== -/
def okC (c : Nat × Nat × Nat) : Prop := c.1 ≤ 2 ∨ (c.1 = 3 ∧ 8 ≤ c.2.2 ∧ c.2.2 < 13) ∨ (c.1 = 4 ∧ c.2.2 < 13) ∨ (5 ≤ c.1 ∧ c.1 ≤ 7 ∧ 60 ≤ c.2.1 ∧ c.2.1 ≤ 62 ∧ c.2.2 < 1000) ∨ (20 ≤ c.1 ∧ c.1 ≤ 22)
/-- how many truths stand after some codes -/
def pdC (c : Nat → Nat × Nat × Nat) : Nat → Nat
  | 0 => 0
  | k + 1 => if (c k).1 = 20 then pdC c k else if (c k).1 = 21 ∨ (c k).1 = 22 then pdC c k - 1 else pdC c k + 1
def okSq (s : xCs) : Prop := ∀ i, i < s.1 → okC (s.2 i) ∧ ((s.2 i).1 = 20 → 1 ≤ pdC s.2 i) ∧ ((s.2 i).1 = 21 ∨ (s.2 i).1 = 22 → 2 ≤ pdC s.2 i) ∧ pdC s.2 (i + 1) ≤ 20
def nb : List Nat → Nat
  | [] => 0
  | a :: r => if a = 21 ∨ a = 22 then nb r + 1 else nb r
theorem nb_le : ∀ σ : List Nat, nb σ ≤ σ.length
  | [] => Nat.le_refl _
  | a :: r => by have := nb_le r; simp only [nb, List.length_cons]; split <;> omega
def in23 : List Nat → Prop
  | [] => True
  | a :: r => (20 ≤ a ∧ a ≤ 23) ∧ in23 r
theorem pdC_congr {c d : Nat → Nat × Nat × Nat} : ∀ k, (∀ i, i < k → c i = d i) → pdC c k = pdC d k
  | 0, _ => rfl
  | k + 1, h => by simp only [pdC]; rw [pdC_congr k (fun i hi => h i (by omega)), h k (by omega)]
theorem pC_old {s : xCs} {x : Nat × Nat × Nat} {i : Nat} (h : i < s.1) : (pC s x).2 i = s.2 i := if_neg (by omega)
theorem pC_new {s : xCs} {x : Nat × Nat × Nat} : (pC s x).2 s.1 = x := if_pos rfl
theorem pC_pd {s : xCs} {x : Nat × Nat × Nat} {i : Nat} (h : i ≤ s.1) : pdC (pC s x).2 i = pdC s.2 i := pdC_congr i fun j hj => pC_old (by omega)
theorem pC_pd1 {s : xCs} {x : Nat × Nat × Nat} : pdC (pC s x).2 (pC s x).1 = if x.1 = 20 then pdC s.2 s.1 else if x.1 = 21 ∨ x.1 = 22 then pdC s.2 s.1 - 1 else pdC s.2 s.1 + 1 := by
  show pdC (pC s x).2 (s.1 + 1) = _
  simp only [pdC]
  rw [pC_new, pC_pd (Nat.le_refl _)]
theorem pC_ok {s : xCs} {x : Nat × Nat × Nat} (h : okSq s) (hx : okC x) (h1 : x.1 = 20 → 1 ≤ pdC s.2 s.1) (h2 : x.1 = 21 ∨ x.1 = 22 → 2 ≤ pdC s.2 s.1) (h3 : pdC (pC s x).2 (pC s x).1 ≤ 20) : okSq (pC s x) := by
  intro i hi
  have hi : i < s.1 + 1 := hi
  by_cases e : i = s.1
  · subst e
    rw [pC_new, pC_pd (Nat.le_refl _)]
    exact ⟨hx, h1, h2, h3⟩
  · have := h i (by omega)
    rw [pC_old (by omega), pC_pd (by omega), pC_pd (by omega)]
    exact this
def snV (s : xCs) (σ : List Nat) (b : Nat) : Prop := okSq s ∧ pdC s.2 s.1 = nb σ + b ∧ in23 σ
theorem nt_V : ∀ (σ : List Nat) (s : xCs), snV s σ 1 → σ.length ≤ 19 → snV (ntF σ s).1 (ntF σ s).2 1
  | [], s, h, _ => h
  | a :: r, s, h, hl => by
    obtain ⟨h1, h2, h3, h4⟩ := h
    rw [ntF]
    split
    · rename_i e
      subst e
      have e2 : nb (20 :: r) = nb r := by simp [nb]
      have hb := nb_le r
      rw [List.length_cons] at hl
      rw [e2] at h2
      refine nt_V r _ ⟨pC_ok h1 (by unfold okC; simp) (fun _ => by omega) (fun q => by simp at q) ?_, ?_, h4⟩ (by omega)
      · rw [pC_pd1, if_pos rfl]; omega
      · rw [pC_pd1, if_pos rfl]; exact h2
    · exact ⟨h1, h2, h3, h4⟩
theorem jn_V (z : Nat) : ∀ (σ : List Nat) (s : xCs), snV s σ 1 → σ.length ≤ 19 → snV (jnF z σ s).1 (jnF z σ s).2 1
  | [], s, h, _ => h
  | a :: r, s, h, hl => by
    obtain ⟨h1, h2, h3, h4⟩ := h
    rw [jnF]
    split
    · rename_i e
      have e2 : nb (a :: r) = nb r + 1 := by simp only [nb]; rw [if_pos (by omega)]
      have hb := nb_le r
      rw [List.length_cons] at hl
      rw [e2] at h2
      have e3 : pdC (pC s (a, 0, 0)).2 (pC s (a, 0, 0)).1 = nb r + 1 := by
        rw [pC_pd1, if_neg (by show ¬ a = 20; omega), if_pos (by show a = 21 ∨ a = 22; omega)]; omega
      refine jn_V z r _ ⟨pC_ok h1 (by unfold okC; show _ ∨ _ ∨ _ ∨ _ ∨ (20 ≤ a ∧ a ≤ 22); omega) (fun q => by have q : a = 20 := q; omega) (fun _ => by omega) ?_, e3, h4⟩ (by omega)
      rw [e3]; omega
    · exact ⟨h1, h2, h3, h4⟩
def snG (n : Nat) (z : xSt) : Prop := snI z ∧ snV z.2.1 z.2.2.1 z.2.2.2.2.toNat ∧ z.1 ≤ n
theorem vfind_lt {v : xV} {w : Int64} (hS : vS v ≤ 4) (hK : vK v ≤ 5) (h : vfind v w ≠ -1) : (vfind v w).toNatClampNeg < 13 ∧ (¬ vfind v w < 8 → 8 ≤ (vfind v w).toNatClampNeg) := by
  unfold vfind at h ⊢
  split
  · rw [n_cl (by omega)]
    refine ⟨by omega, fun q => absurd ?_ q⟩
    rw [c_lt 8 (by omega) (by decide)]; omega
  · rename_i q
    rw [if_neg q] at h
    split
    · rw [n_cl (by omega)]
      exact ⟨by omega, fun _ => by omega⟩
    · rename_i q2
      rw [if_neg q2] at h
      exact absurd rfl h
theorem leaf_G {n p q o : Nat} {s : xCs} {σ : List Nat} {x : Nat × Nat × Nat} (h : snG n (p, s, σ, o, false)) (ho : o ≠ 20) (hq : q ≤ n) (hx : okC x) (h1 : x.1 ≤ 7) : snG n (q, pC s x, σ, o + 1, true) := by
  obtain ⟨⟨i1, i2, i3, i4⟩, ⟨v1, v2, v3⟩, -⟩ := h
  have i1 : o ≤ 20 := i1
  have i2 : s.1 + σ.length + 0 ≤ 2 * o := i2
  have i3 : σ.length + 0 ≤ o := i3
  have v2 : pdC s.2 s.1 = nb σ + 0 := v2
  have hb := nb_le σ
  have e : pdC (pC s x).2 (pC s x).1 = nb σ + 1 := by
    rw [pC_pd1, if_neg (by omega), if_neg (by omega)]; omega
  refine ⟨⟨?_, ?_, ?_, i4⟩, ⟨pC_ok v1 hx (by omega) (by omega) (by rw [e]; omega), e, v3⟩, hq⟩
  · show o + 1 ≤ 20; omega
  · show s.1 + 1 + σ.length + 1 ≤ 2 * (o + 1); omega
  · show σ.length + 1 ≤ o + 1; omega
theorem push_G {n p q o a : Nat} {s : xCs} {σ : List Nat} (h : snG n (p, s, σ, o, false)) (ho : ¬ (o = 20 ∨ 8 < dp σ)) (hq : q ≤ n) (ha : a = 20 ∨ a = 23) : snG n (q, s, a :: σ, o + 1, false) := by
  obtain ⟨⟨i1, i2, i3, i4⟩, ⟨v1, v2, v3⟩, -⟩ := h
  have i1 : o ≤ 20 := i1
  have i2 : s.1 + σ.length + 0 ≤ 2 * o := i2
  have i3 : σ.length + 0 ≤ o := i3
  have v2 : pdC s.2 s.1 = nb σ + 0 := v2
  have e1 : nb (a :: σ) = nb σ := by simp only [nb]; rw [if_neg (by omega)]
  have e2 : dp (a :: σ) = dp σ + 1 := by simp only [dp]; rw [if_pos (by omega)]
  refine ⟨⟨?_, ?_, ?_, ?_⟩, ⟨v1, ?_, ⟨by omega, v3⟩⟩, hq⟩
  · show o + 1 ≤ 20; omega
  · show s.1 + (a :: σ).length + 0 ≤ 2 * (o + 1); rw [List.length_cons]; omega
  · show (a :: σ).length + 0 ≤ o + 1; rw [List.length_cons]; omega
  · show dp (a :: σ) ≤ 9; omega
  · show pdC s.2 s.1 = nb (a :: σ) + 0; omega
theorem op_G {v : xV} {f : Nat → Nat} {n p o : Nat} {s : xCs} {σ : List Nat} {z : xSt} (hS : vS v ≤ 4) (hK : vK v ≤ 5) (h : snG n (p, s, σ, o, false)) (e : opF v f n 200 p s σ o = .inr z) : snG n z ∧ p < z.1 := by
  have hp : p ≤ n := h.2.2
  unfold opF at e
  split at e
  · cases e
  · rename_i h0
    have tok := opd_ok h0
    obtain ⟨a1, a2, a3⟩ := tk_next (f := f) (n := n) (lim := 200) (p := p) hp
    have a3 := a3 tok.1 tok.2
    obtain ⟨b1, b2, -⟩ := tk_next (f := f) (n := n) (lim := 200) (p := (tk f n 200 p).2.2.1) a1
    obtain ⟨c1, c2, -⟩ := tk_next (f := f) (n := n) (lim := 200) (p := (tk f n 200 (tk f n 200 p).2.2.1).2.2.1) b1
    have hle := lf_le (tk f n 200 p)
    split at e
    · cases e
    · rename_i q
      split at e
      · cases e; exact ⟨push_G h q a1 (Or.inl rfl), a3⟩
      · split at e
        · cases e; exact ⟨push_G h q a1 (Or.inr rfl), a3⟩
        · rename_i n1 n2
          have l8 : lfO (tk f n 200 p) ≠ 8 := fun w => h0 ⟨by simpa using n1, by simpa using n2, w⟩
          split at e
          · rename_i w
            cases e; exact ⟨leaf_G h (by omega) a1 (Or.inl (by show lfO _ ≤ 2; omega)) (by show lfO _ ≤ 7; omega), a3⟩
          · split at e
            · rename_i w3 w5
              by_cases w4 : isNa (tk f n 200 (tk f n 200 p).2.2.1) = false
              · rw [if_pos w4] at e; cases e
              · rw [if_neg w4] at e
                by_cases w6 : (if lfO (tk f n 200 p) = 3 then vfind v (lN (tk f n 200 (tk f n 200 p).2.2.1).2.2.2) < 8 else vfind v (lN (tk f n 200 (tk f n 200 p).2.2.1).2.2.2) = -1)
                · rw [if_pos w6] at e; cases e
                · rw [if_neg w6] at e
                  cases e
                  refine ⟨leaf_G h (by omega) b1 ?_ (by show lfO _ ≤ 7; omega), by show p < _; omega⟩
                  by_cases l3 : lfO (tk f n 200 p) = 3
                  · rw [if_pos l3] at w6
                    have := vfind_lt hS hK (w := lN (tk f n 200 (tk f n 200 p).2.2.1).2.2.2) (fun z => w6 (by rw [z]; decide))
                    exact Or.inr (Or.inl ⟨l3, this.2 w6, this.1⟩)
                  · rw [if_neg l3] at w6
                    exact Or.inr (Or.inr (Or.inl ⟨by show lfO _ = 4; omega, (vfind_lt hS hK w6).1⟩))
            · rename_i w3 w5
              split at e
              · cases e
              · rename_i w6
                have w6 := Classical.not_not.mp w6
                split at e
                · cases e
                · rename_i w7
                  cases e
                  exact ⟨leaf_G h (by omega) c1 (Or.inr (Or.inr (Or.inr (Or.inl ⟨by show 5 ≤ lfO _; omega, by show lfO _ ≤ 7; omega, w6.2.1, w6.2.2, tk_v2 (by omega)⟩)))) (by show lfO _ ≤ 7; omega), by show p < _; omega⟩
theorem bh_G {f : Nat → Nat} {n p o : Nat} {s : xCs} {σ : List Nat} {z : xSt} (h : snG n (p, s, σ, o, true)) (e : bhF f n 200 p s σ o = .inr z) : snG n z ∧ p < z.1 := by
  obtain ⟨⟨i1, i2, i3, i4⟩, hv, hp⟩ := h
  have i1 : o ≤ 20 := i1
  have i2 : s.1 + σ.length + 1 ≤ 2 * o := i2
  have i3 : σ.length + 1 ≤ o := i3
  have i4 : dp σ ≤ 9 := i4
  have hv : snV s σ 1 := hv
  have hp : p ≤ n := hp
  obtain ⟨a1, a2, a3⟩ := tk_next (f := f) (n := n) (lim := 200) (p := p) hp
  obtain ⟨n1, n2, n3⟩ := nt_p σ s
  have nV := nt_V σ s hv (by omega)
  unfold bhF at e
  generalize ntF σ s = a at *
  have key : ∀ x, (x = 21 ∨ x = 22) → (tk f n 200 p).1 = 1 → snG n ((tk f n 200 p).2.2.1, (jnF x a.2 a.1).1, x :: (jnF x a.2 a.1).2, o, false) ∧ p < (tk f n 200 p).2.2.1 := fun x hx ht => by
    obtain ⟨j1, j2, j3⟩ := jn_p x a.2 a.1
    obtain ⟨v1, v2, v3⟩ := jn_V x a.2 a.1 nV (by omega)
    refine ⟨⟨⟨i1, ?_, ?_, ?_⟩, ⟨v1, ?_, ⟨by omega, v3⟩⟩, a1⟩, a3 (by omega) (by omega)⟩
    · show (jnF x a.2 a.1).1.1 + (x :: (jnF x a.2 a.1).2).length + 0 ≤ 2 * o; rw [List.length_cons]; omega
    · show (x :: (jnF x a.2 a.1).2).length + 0 ≤ o; rw [List.length_cons]; omega
    · show dp (x :: (jnF x a.2 a.1).2) ≤ 9
      have : dp (x :: (jnF x a.2 a.1).2) = dp (jnF x a.2 a.1).2 := by simp only [dp]; rw [if_neg (by omega)]
      omega
    · show pdC (jnF x a.2 a.1).1.2 (jnF x a.2 a.1).1.1 = nb (x :: (jnF x a.2 a.1).2) + 0
      have : nb (x :: (jnF x a.2 a.1).2) = nb (jnF x a.2 a.1).2 + 1 := by simp only [nb]; rw [if_pos hx]
      omega
  split at e
  · rename_i w; cases e; exact key 21 (Or.inl rfl) (wdT1 w)
  · split at e
    · rename_i w; cases e; exact key 22 (Or.inr rfl) (wdT1 w)
    · split at e
      · cases e
      · rename_i w
        have w1 : isMk (tk f n 200 p) 41 = true := by
          cases q : isMk (tk f n 200 p) 41
          · exact absurd (Or.inl q) w
          · rfl
        have w2 : (jnF 22 a.2 a.1).2 ≠ [] := fun q => w (Or.inr q)
        cases e
        have ht := mkT1 w1
        obtain ⟨j1, j2, j3⟩ := jn_p 22 a.2 a.1
        have jV := jn_V 22 a.2 a.1 nV (by omega)
        have jt := jn_top a.2 a.1
        generalize jnF 22 a.2 a.1 = b at *
        obtain ⟨v1, v2, v3⟩ := jV
        refine ⟨?_, a3 (by omega) (by omega)⟩
        cases hb : b.2 with
        | nil => exact absurd hb w2
        | cons x r =>
          have hx := jt x r hb
          rw [hb] at v2 v3 j1 j2 j3
          rw [List.length_cons] at j1 j2
          have e1 : nb (x :: r) = nb r := by simp only [nb]; rw [if_neg (by omega)]
          have e2 := dp_tail (x :: r)
          rw [List.tail_cons] at e2
          refine ⟨⟨i1, ?_, ?_, ?_⟩, ⟨v1, ?_, v3.2⟩, a1⟩
          · show b.1.1 + r.length + 1 ≤ 2 * o; omega
          · show r.length + 1 ≤ o; omega
          · show dp r ≤ 9; omega
          · show pdC b.1.2 b.1.1 = nb r + 1; omega

