/-! ===== places and steps, as numbers ===== -/
def exN (p : Nat → Bool) : Nat → Bool
  | 0 => false
  | n + 1 => exN p n || p n
theorem exN_iff {p : Nat → Bool} : ∀ {n}, exN p n = true ↔ ∃ i, i < n ∧ p i = true
  | 0 => by simp [exN]
  | n + 1 => by
    simp only [exN, Bool.or_eq_true]
    rw [exN_iff]
    constructor
    · rintro (⟨i, h1, h2⟩ | h)
      · exact ⟨i, by omega, h2⟩
      · exact ⟨n, by omega, h⟩
    · rintro ⟨i, h1, h2⟩
      by_cases e : i = n
      · subst e; exact Or.inr h2
      · exact Or.inl ⟨i, by omega, h2⟩
/-- kinds of a class's items; kinds that are next there -/
def okB (v : xV) (g n k : Nat) : Bool := exN (fun i => decide (vcl v i = g ∧ 2 ≤ i ∧ vrk v (vri v i) = k)) n
def clB (v : xV) (c n k : Nat) : Bool := exN (fun i => decide (vcl v i = c ∧ vnx v i = 8 + k ∧ k < 5)) n
/-- a class's item may be called from a class -/
def prB (v : xV) (g c : Nat) : Bool := exN (fun k => okB v g (vN v) k && clB v c (vN v) k) 5
def plR (v : xV) (g : Nat) : Nat → List (Nat × Nat)
  | 0 => []
  | c + 1 => plR v g c ++ (if vcl v g = g ∧ prB v g c = true then [(g, c)] else [])
def plW (v : xV) (g : Nat) : List (Nat × Nat) := if vD v = 0 then (if vcl v g = g then [(g, 42)] else []) else plR v g (vN v)
def plG (v : xV) : Nat → List (Nat × Nat)
  | 0 => [(0, 42), (1, 42)]
  | n + 1 => plG v n ++ plW v (2 + n)
/-- the places in their order: class, caller (42: none) -/
def plL (v : xV) : List (Nat × Nat) := plG v (vN v - 2)
theorem plR_mem {v : xV} {g : Nat} {x : Nat × Nat} : ∀ {c}, x ∈ plR v g c ↔ x.1 = g ∧ x.2 < c ∧ vcl v g = g ∧ prB v g x.2 = true
  | 0 => by simp [plR]
  | c + 1 => by
    rw [plR, List.mem_append, plR_mem (c := c)]
    constructor
    · rintro (⟨a, b, d, e⟩ | h)
      · exact ⟨a, by omega, d, e⟩
      · split at h
        · rename_i q
          simp only [List.mem_singleton] at h
          subst h
          exact ⟨rfl, by show c < c + 1; omega, q.1, q.2⟩
        · cases h
    · rintro ⟨a, b, d, e⟩
      by_cases w : x.2 = c
      · right
        rw [if_pos ⟨d, by rw [← w]; exact e⟩]
        simp only [List.mem_singleton]
        exact Prod.ext a w
      · exact Or.inl ⟨a, by omega, d, e⟩
theorem plW_mem {v : xV} {g : Nat} {x : Nat × Nat} : x ∈ plW v g ↔ x.1 = g ∧ vcl v g = g ∧ ((vD v = 0 ∧ x.2 = 42) ∨ (vD v ≠ 0 ∧ x.2 < vN v ∧ prB v g x.2 = true)) := by
  unfold plW
  by_cases h : vD v = 0
  · rw [if_pos h]
    split
    · rename_i q
      simp only [List.mem_singleton]
      constructor
      · intro e; subst e; exact ⟨rfl, q, Or.inl ⟨h, rfl⟩⟩
      · rintro ⟨a, -, ⟨-, b⟩ | ⟨b, -⟩⟩
        · exact Prod.ext a b
        · exact absurd h b
    · rename_i q
      constructor
      · intro e; cases e
      · rintro ⟨-, b, -⟩; exact absurd b q
  · rw [if_neg h, plR_mem]
    constructor
    · rintro ⟨a, b, c, d⟩; exact ⟨a, c, Or.inr ⟨h, b, d⟩⟩
    · rintro ⟨a, b, ⟨c, -⟩ | ⟨-, c, d⟩⟩
      · exact absurd c h
      · exact ⟨a, c, b, d⟩
theorem plG_mem {v : xV} {x : Nat × Nat} : ∀ {n}, x ∈ plG v n ↔ x = (0, 42) ∨ x = (1, 42) ∨ (2 ≤ x.1 ∧ x.1 < 2 + n ∧ vcl v x.1 = x.1 ∧ ((vD v = 0 ∧ x.2 = 42) ∨ (vD v ≠ 0 ∧ x.2 < vN v ∧ prB v x.1 x.2 = true)))
  | 0 => by
    simp only [plG, List.mem_cons, List.not_mem_nil, or_false]
    constructor
    · rintro (h | h)
      · exact Or.inl h
      · exact Or.inr (Or.inl h)
    · rintro (h | h | ⟨a, b, -⟩)
      · exact Or.inl h
      · exact Or.inr h
      · omega
  | n + 1 => by
    rw [plG, List.mem_append, plG_mem (n := n), plW_mem]
    constructor
    · rintro ((h | h | ⟨a, b, c, d⟩) | ⟨a, b, c⟩)
      · exact Or.inl h
      · exact Or.inr (Or.inl h)
      · exact Or.inr (Or.inr ⟨a, by omega, c, d⟩)
      · exact Or.inr (Or.inr ⟨by omega, by omega, by rw [a]; exact b, by rw [a]; exact c⟩)
    · rintro (h | h | ⟨a, b, c, d⟩)
      · exact Or.inl (Or.inl h)
      · exact Or.inl (Or.inr (Or.inl h))
      · by_cases e : x.1 = 2 + n
        · exact Or.inr ⟨e, by rw [← e]; exact c, by rw [← e]; exact d⟩
        · exact Or.inl (Or.inr (Or.inr ⟨a, by omega, c, d⟩))
/-- which cell of the index is a place's -/
def plX (x : Nat × Nat) : Nat := 42 * x.1 + (if x.2 = 42 then 0 else x.2)
/-- ahead of a place in the order -/
def plB (x y : Nat × Nat) : Prop := x.1 < y.1 ∨ (x.1 = y.1 ∧ x.2 < y.2)
theorem plR_sort {v : xV} {g : Nat} : ∀ c, List.Pairwise plB (plR v g c)
  | 0 => List.Pairwise.nil
  | c + 1 => by
    rw [plR, List.pairwise_append]
    refine ⟨plR_sort c, ?_, fun x hx y hy => ?_⟩
    · split
      · exact List.pairwise_singleton _ _
      · exact List.Pairwise.nil
    · have hx := plR_mem.mp hx
      split at hy
      · simp only [List.mem_singleton] at hy
        subst hy
        exact Or.inr ⟨hx.1, hx.2.1⟩
      · cases hy
theorem plW_sort {v : xV} {g : Nat} : List.Pairwise plB (plW v g) := by
  unfold plW
  split
  · split
    · exact List.pairwise_singleton _ _
    · exact List.Pairwise.nil
  · exact plR_sort _
theorem plG_sort {v : xV} : ∀ n, List.Pairwise plB (plG v n)
  | 0 => by
    unfold plG
    refine List.pairwise_cons.mpr ⟨fun y hy => ?_, List.pairwise_singleton _ _⟩
    simp only [List.mem_singleton] at hy
    subst hy
    exact Or.inl (by decide)
  | n + 1 => by
    rw [plG, List.pairwise_append]
    refine ⟨plG_sort n, plW_sort, fun x hx y hy => ?_⟩
    have hy := plW_mem.mp hy
    rcases plG_mem.mp hx with rfl | rfl | ⟨a, b, -⟩
    · exact Or.inl (by show 0 < y.1; omega)
    · exact Or.inl (by show 1 < y.1; omega)
    · exact Or.inl (by omega)
/-- a place is what it is: two of one cell of the index are one -/
theorem plX_inj {v : xV} {n : Nat} {x y : Nat × Nat} (hN : vN v ≤ 42) (hx : x ∈ plG v n) (hy : y ∈ plG v n) (h : plX x = plX y) : x = y := by
  have k : ∀ x, x ∈ plG v n → x.2 ≤ 42 ∧ (x.1 < 2 → x.2 = 42) ∧ (2 ≤ x.1 → vD v = 0 → x.2 = 42) ∧ (2 ≤ x.1 → vD v ≠ 0 → x.2 < 42) := by
    intro x hx
    rcases plG_mem.mp hx with rfl | rfl | ⟨a, b, c, d⟩
    · exact ⟨Nat.le_refl _, fun _ => rfl, fun h => absurd h (by decide), fun h => absurd h (by decide)⟩
    · exact ⟨Nat.le_refl _, fun _ => rfl, fun h => absurd h (by decide), fun h => absurd h (by decide)⟩
    · rcases d with ⟨d1, d2⟩ | ⟨d1, d2, -⟩
      · exact ⟨by omega, fun h => by omega, fun _ _ => d2, fun _ h => absurd d1 h⟩
      · exact ⟨by omega, fun h => by omega, fun _ h => absurd h d1, fun _ _ => by omega⟩
  obtain ⟨a1, a2, a3, a4⟩ := k x hx
  obtain ⟨b1, b2, b3, b4⟩ := k y hy
  unfold plX at h
  have e1 : x.1 = y.1 := by
    split at h <;> split at h <;> omega
  refine Prod.ext e1 ?_
  rcases Nat.lt_or_ge x.1 2 with w | w
  · have := a2 w; have := b2 (by omega); omega
  · by_cases D : vD v = 0
    · have := a3 w D; have := b3 (by omega) D; omega
    · have := a4 w D; have := b4 (by omega) D
      rw [if_neg (by omega), if_neg (by omega)] at h
      omega
/-- item i's kind is next in class c -/
def caK (v : xV) (c i : Nat) : Prop := ∃ j, j < vN v ∧ vcl v j = c ∧ vnx v j = 8 + vrk v (vri v i)
theorem caK_cl {v : xV} {c i : Nat} (h5 : vrk v (vri v i) < 5) : caK v c i ↔ clB v c (vN v) (vrk v (vri v i)) = true := by
  unfold caK clB
  rw [exN_iff]
  constructor
  · rintro ⟨j, h1, h2, h3⟩; exact ⟨j, h1, by simp [h2, h3, h5]⟩
  · rintro ⟨j, h1, h2⟩; simp only [decide_eq_true_eq] at h2; exact ⟨j, h1, h2.1, h2.2.1⟩
theorem pr_iff {v : xV} (hw : wfg v) {g c : Nat} : prB v g c = true ↔ ∃ i, 2 ≤ i ∧ i < vN v ∧ vcl v i = g ∧ caK v c i := by
  unfold prB okB
  rw [exN_iff]
  constructor
  · rintro ⟨k, hk, h⟩
    simp only [Bool.and_eq_true] at h
    obtain ⟨h1, h2⟩ := h
    rw [exN_iff] at h1
    obtain ⟨i, a, b⟩ := h1
    simp only [decide_eq_true_eq] at b
    exact ⟨i, b.2.1, a, b.1, (caK_cl (by omega)).mpr (by rw [b.2.2]; exact h2)⟩
  · rintro ⟨i, a, b, d, e⟩
    have hk := (hw.2.2.2.2 _ (vri_sp a b).1).1
    have h5 := hw.2.1
    refine ⟨vrk v (vri v i), by omega, ?_⟩
    simp only [Bool.and_eq_true]
    refine ⟨?_, (caK_cl (by omega)).mp e⟩
    rw [exN_iff]
    exact ⟨i, b, by simp [d, a]⟩
/-- an item is at a place -/
def atP (v : xV) (P : Nat × Nat) (i : Nat) : Prop := 2 ≤ i ∧ i < vN v ∧ vcl v i = P.1 ∧ (P.2 = 42 ∨ caK v P.2 i)
/-- by depth 1 the caller -/
def cD (v : xV) (c : Nat) : Nat := if vD v = 0 then 42 else c
def opS (v : xV) (i s : Nat) (Q : Nat × Nat) : Prop := ∃ r, r < vR v ∧ vnx v i = 8 + vrk v r ∧ s = 4 + r ∧ Q = (vcl v (vfst v r), cD v (vcl v i))
def toS (v : xV) (j : Nat) (Q : Nat × Nat) : Prop := ∃ c, c < vN v ∧ caK v c j ∧ Q = (vcl v (j + 1), c)
def clS (v : xV) (P : Nat × Nat) (i s : Nat) (Q : Nat × Nat) : Prop := s = 14 + vri v i ∧ ∃ j, j < vN v ∧ vnx v j = 8 + vrk v (vri v i) ∧ (P.2 = 42 ∨ vcl v j = P.2) ∧ ((j = 0 ∧ Q = (1, 42)) ∨ (j ≠ 0 ∧ P.2 = 42 ∧ Q = (vcl v (j + 1), 42)) ∨ (j ≠ 0 ∧ P.2 ≠ 42 ∧ toS v j Q))
def itS (v : xV) (P : Nat × Nat) (i s : Nat) (Q : Nat × Nat) : Prop := (vnx v i = 15 ∧ clS v P i s Q) ∨ (vnx v i < 8 ∧ s = vnx v i ∧ Q = (vcl v (i + 1), P.2)) ∨ (8 ≤ vnx v i ∧ vnx v i ≠ 15 ∧ opS v i s Q)
/-- a step: from a place by a sort (0 to 3 signs, 4 to 13 openings, 14 to 23 closings) to a place -/
def stS (v : xV) (P : Nat × Nat) (s : Nat) (Q : Nat × Nat) : Prop := (P = (0, 42) ∧ opS v 0 s Q) ∨ ∃ i, atP v P i ∧ itS v P i s Q

