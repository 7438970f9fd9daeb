/-! ===== both sides' steps are the same ===== -/
theorem sc_s {s : Nat} (h : s < 4) : sc s = s := if_pos h
theorem sc_o {r : Nat} (h : r < 10) : sc (4 + r) = 16 + r := by unfold sc; rw [if_neg (by omega), if_pos (by omega)]; omega
theorem sc_c {r : Nat} : sc (14 + r) = 32 + r := by unfold sc; rw [if_neg (by omega), if_neg (by omega)]; omega
def plC (v : xV) (X : Nat × Nat) (i c : Nat) : Prop := (vD v = 0 ∧ X.2 = 42 ∧ c = 42) ∨ (vD v ≠ 0 ∧ X.2 ≠ 42 ∧ vcl v c = X.2 ∧ frT v i c ∧ c < vN v)
theorem plC_cD {v : xV} {X : Nat × Nat} {i c : Nat} (h : plC v X i c) : cD v (vcl v c) = X.2 := by
  unfold cD
  rcases h with ⟨a, b, -⟩ | ⟨a, -, b, -⟩
  · rw [if_pos a, b]
  · rw [if_neg a, b]
theorem op_op {v : xV} {i l : Nat} {Q : Nat × Nat} (hw : wfg v) : opR v i (vR v) l Q ↔ ∃ s, s < 24 ∧ l = sc s ∧ opS v i s Q := by
  have h10 := hw.2.2.1
  constructor
  · rintro ⟨r, a, b, c, d⟩
    exact ⟨4 + r, by omega, by rw [sc_o (by omega)]; exact c, r, a, b, rfl, d⟩
  · rintro ⟨s, -, e, r, a, b, rfl, d⟩
    rw [sc_o (by omega)] at e
    exact ⟨r, a, b, e, d⟩
theorem cl_cl {v : xV} {X : Nat × Nat} {i c : Nat} {Q : Nat × Nat} (h : plC v X i c) (h2 : 2 ≤ i) : (∃ j, j < vN v ∧ frT v i j ∧ (vD v = 0 ∨ j = c) ∧ clR v j Q) → clS v X i (14 + vri v i) Q := by
  rintro ⟨j, a, b, d, e⟩
  refine ⟨rfl, j, a, b.2, ?_, ?_⟩
  · rcases h with ⟨h1, h3, -⟩ | ⟨h1, -, h3, -⟩
    · exact Or.inl h3
    · rcases d with d | d
      · exact absurd d h1
      · subst d; exact Or.inr h3
  · rcases e with e | ⟨e1, e2, e3⟩ | ⟨e1, e2, e3⟩
    · exact Or.inl e
    · rcases h with ⟨h1, h3, -⟩ | ⟨h1, -⟩
      · exact Or.inr (Or.inl ⟨e1, h3, e3⟩)
      · exact absurd e2 h1
    · rcases h with ⟨h1, -⟩ | ⟨h1, h3, -⟩
      · exact absurd h1 e2
      · exact Or.inr (Or.inr ⟨e1, h3, e3⟩)
theorem so_it {v : xV} {X : Nat × Nat} {i c l : Nat} {Q : Nat × Nat} (hw : wfg v) (h : plC v X i c) (h2 : 2 ≤ i) (hi : i < vN v) (hs : soR v i c l Q) : ∃ s, s < 24 ∧ l = sc s ∧ itS v X i s Q := by
  have h10 := hw.2.2.1
  have h4 := hw.1
  rcases hs with ⟨a, b, d⟩ | ⟨a, b, d⟩ | ⟨a, -, b, d⟩
  · obtain ⟨s, s1, s2, s3⟩ := (op_op hw).mp d
    exact ⟨s, s1, s2, Or.inr (Or.inr ⟨a, b, s3⟩)⟩
  · have := vnx_sp hw i
    refine ⟨vnx v i, by omega, by rw [sc_s (by omega)]; exact b, Or.inr (Or.inl ⟨a, rfl, ?_⟩)⟩
    rw [d, plC_cD h]
  · have hr := (vri_sp h2 hi).1
    exact ⟨14 + vri v i, by omega, by rw [sc_c]; exact b, Or.inl ⟨a, cl_cl h h2 d⟩⟩
theorem it_so {v : xV} {X : Nat × Nat} {i s : Nat} {Q : Nat × Nat} (hw : wfg v) (h2 : 2 ≤ i) (hi : i < vN v) (hX : (vD v = 0 ∧ X.2 = 42) ∨ (vD v ≠ 0 ∧ X.2 ≠ 42 ∧ caK v X.2 i)) (hs : itS v X i s Q) : ∃ c, plC v X i c ∧ soR v i c (sc s) Q := by
  have h10 := hw.2.2.1
  have h4 := hw.1
  have hc : ∃ c, plC v X i c := by
    rcases hX with ⟨a, b⟩ | ⟨a, b, j, d1, d2, d3⟩
    · exact ⟨42, Or.inl ⟨a, b, rfl⟩⟩
    · exact ⟨j, Or.inr ⟨a, b, d2, ⟨h2, d3⟩, d1⟩⟩
  rcases hs with ⟨a, b⟩ | ⟨a, b, d⟩ | ⟨a, b, d⟩
  · obtain ⟨b1, j, b2, b3, b4, b5⟩ := b
    subst b1
    have hr := (vri_sp h2 hi).1
    have hcl : clR v j Q := by
      rcases b5 with e | ⟨e1, e2, e3⟩ | ⟨e1, e2, e3⟩
      · exact Or.inl e
      · rcases hX with ⟨x1, x2⟩ | ⟨x1, x2, -⟩
        · exact Or.inr (Or.inl ⟨e1, x1, e3⟩)
        · exact absurd e2 x2
      · rcases hX with ⟨x1, x2⟩ | ⟨x1, x2, -⟩
        · exact absurd x2 e2
        · exact Or.inr (Or.inr ⟨e1, x1, e3⟩)
    rcases hX with ⟨x1, x2⟩ | ⟨x1, x2, -⟩
    · exact ⟨42, Or.inl ⟨x1, x2, rfl⟩, Or.inr (Or.inr ⟨a, h2, sc_c, j, b2, ⟨h2, b3⟩, Or.inl x1, hcl⟩)⟩
    · exact ⟨j, Or.inr ⟨x1, x2, b4.resolve_left x2, ⟨h2, b3⟩, b2⟩, Or.inr (Or.inr ⟨a, h2, sc_c, j, b2, ⟨h2, b3⟩, Or.inr rfl, hcl⟩)⟩
  · obtain ⟨c, hc⟩ := hc
    have := vnx_sp hw i
    refine ⟨c, hc, Or.inr (Or.inl ⟨a, by rw [b, sc_s (by omega)], ?_⟩)⟩
    rw [d, plC_cD hc]
  · obtain ⟨c, hc⟩ := hc
    obtain ⟨r, r1, r2, r3, r4⟩ := d
    exact ⟨c, hc, Or.inl ⟨a, b, r, r1, r2, by rw [r3, sc_o (by omega)], r4⟩⟩
theorem rp_st {v : xV} {p l : Nat} {X Q : Nat × Nat} (hw : wfg v) (hc : wfc v) (hX : plA v p X) : rpN v X (vN v) l Q ↔ ∃ s, s < 24 ∧ l = sc s ∧ stS v X s Q := by
  have hN := vN_le hw
  have hm := plA_mem hX
  constructor
  · rintro ⟨i, a, b, d, e⟩
    rcases Nat.eq_zero_or_pos i with z | z
    · subst z
      have c0 := (hc 0 (by omega)).2.2.1 (by omega)
      have eX : X = (0, 42) := by
        rcases plG_mem.mp hm with w | w | ⟨w, -⟩
        · exact w
        · rw [w] at b; rw [c0] at b; cases b
        · omega
      rcases e with ⟨-, ⟨e1, e2, e3⟩ | ⟨e1, -⟩ | ⟨-, e1, -⟩⟩ | ⟨e1, -⟩
      · obtain ⟨s, s1, s2, s3⟩ := (op_op hw).mp e3
        exact ⟨s, s1, s2, Or.inl ⟨eX, s3⟩⟩
      · exfalso
        unfold vnx at e1
        rw [if_pos rfl] at e1
        split at e1 <;> omega
      · omega
      · exact absurd rfl e1
    · have h2 : 2 ≤ i := by omega
      have hXg : 2 ≤ X.1 := by have := (hc i (by omega)).2.2.2.1 h2; omega
      obtain ⟨d0, d1⟩ := pl_D hm hXg
      rcases e with ⟨e1 | e1, e2⟩ | ⟨e1, e2, j, e3, e4, e5, e6⟩
      · omega
      · obtain ⟨s, s1, s2, s3⟩ := so_it hw (X := X) (Or.inl ⟨e1, d0 e1, rfl⟩) h2 a e2
        exact ⟨s, s1, s2, Or.inr ⟨i, ⟨h2, a, b, Or.inl (d0 e1)⟩, s3⟩⟩
      · have hx42 : X.2 ≠ 42 := by
          have := (hc j (by omega)).1
          omega
        obtain ⟨s, s1, s2, s3⟩ := so_it hw (X := X) (Or.inr ⟨e2, hx42, e4, e5, e3⟩) h2 a e6
        exact ⟨s, s1, s2, Or.inr ⟨i, ⟨h2, a, b, Or.inr ⟨j, e3, e4, e5.2⟩⟩, s3⟩⟩
  · rintro ⟨s, s1, rfl, ⟨eX, w⟩ | ⟨i, ⟨h2, a, b, hcl⟩, w⟩⟩
    · subst eX
      have c0 := (hc 0 (by omega)).2.2.1 (by omega)
      have hN2 := vN_ge v
      obtain ⟨r, r1, r2, r3, r4⟩ := w
      have hk := (hw.2.2.2.2 r r1).1
      have h5 := hw.2.1
      have h10 := hw.2.2.1
      exact ⟨0, by omega, c0, by omega, Or.inl ⟨Or.inl rfl, Or.inl ⟨by omega, by omega, r, r1, r2, by rw [r3, sc_o (by omega)], r4⟩⟩⟩
    · have hXg : 2 ≤ X.1 := by have := (hc i (by omega)).2.2.2.1 h2; omega
      obtain ⟨d0, d1⟩ := pl_D hm hXg
      refine ⟨i, a, b, by omega, ?_⟩
      by_cases D : vD v = 0
      · obtain ⟨c, hc2, hs⟩ := it_so hw h2 a (Or.inl ⟨D, d0 D⟩) w
        rcases hc2 with ⟨-, -, z⟩ | ⟨z, -⟩
        · subst z; exact Or.inl ⟨Or.inr D, hs⟩
        · exact absurd D z
      · have hx42 : X.2 ≠ 42 := by
          rcases d1 D with z | z <;> omega
        obtain ⟨c, hc2, hs⟩ := it_so hw h2 a (Or.inr ⟨D, hx42, hcl.resolve_left hx42⟩) w
        rcases hc2 with ⟨z, -⟩ | ⟨-, -, z1, z2, z3⟩
        · exact absurd z D
        · exact Or.inr ⟨by omega, D, c, z3, z1, z2, hs⟩

