/-! ===== how many steps a place can have ===== -/
/-- each there is owed to one of m, none of which is owed twice -/
theorem cb_pig {f : Nat → Bool} {n : Nat} : ∀ {m : Nat} {R : Nat → Nat → Prop}, (∀ x, x < n → f x = true → ∃ i, i < m ∧ R x i) → (∀ x y i, R x i → R y i → x = y) → cb f n ≤ m
  | 0, R, h, h2 => by
    rw [cb_flat (a := 0) (b := n) (Nat.zero_le _) fun y _ hy => ?_]
    · exact Nat.le_refl _
    · cases w : f y
      · rfl
      · obtain ⟨i, a, -⟩ := h y hy w
        exact absurd a (Nat.not_lt_zero i)
  | m + 1, R, h, h2 => by
    by_cases w : ∃ x, x < n ∧ f x = true ∧ R x m
    · obtain ⟨x, a, b, c⟩ := w
      rw [cb_rm b n a]
      have := cb_pig (f := fun j => f j && decide (j ≠ x)) (n := n) (m := m) (R := R) (fun y hy hf => ?_) h2
      · omega
      · simp only [Bool.and_eq_true, decide_eq_true_eq] at hf
        obtain ⟨i, d, e⟩ := h y hy hf.1
        have : i ≠ m := fun z => by subst z; exact hf.2 (h2 _ _ _ e c)
        exact ⟨i, by omega, e⟩
    · refine Nat.le_trans (cb_pig (m := m) (R := R) (fun y hy hf => ?_) h2) (by omega)
      obtain ⟨i, d, e⟩ := h y hy hf
      have : i ≠ m := fun z => by subst z; exact w ⟨y, hy, hf, e⟩
      exact ⟨i, by omega, e⟩
/-- the steps of a place, by labels: no more than 852 -/
def owe (v : xV) (X : Nat × Nat) (y o : Nat) : Prop := (o < 42 ∧ y < 1024 ∧ o < vN v ∧ vcl v o = X.1 ∧ ∃ Q, plA v (y % 128) Q ∧ vnx v o = y / 128 ∧ Q = (vcl v (o + 1), cD v X.2)) ∨ (42 ≤ o ∧ o < 52 ∧ 2048 ≤ y ∧ y / 128 = 16 + (o - 42) ∧ ∃ Q, plA v (y % 128) Q ∧ Q = (vcl v (vfst v (o - 42)), cD v X.1)) ∨ (52 ≤ o ∧ o < 852 ∧ 4096 ≤ y ∧ y / 128 = 32 + (o - 52) / 80 ∧ y % 128 = (o - 52) % 80)
theorem owe_one {v : xV} {X : Nat × Nat} {x y o : Nat} (h : owe v X x o) (h' : owe v X y o) : x = y := by
  rcases h with ⟨a1, a2, a3, a4, Q, a5, a6, a7⟩ | ⟨a1, a2, a3, a4, Q, a5, a6⟩ | ⟨a1, a2, a3, a4, a5⟩
  · rcases h' with ⟨b1, b2, b3, b4, Q', b5, b6, b7⟩ | ⟨b1, -⟩ | ⟨b1, -⟩
    · subst a7; subst b7
      have := plA_inj a5 b5
      omega
    · omega
    · omega
  · rcases h' with ⟨b1, -⟩ | ⟨b1, b2, b3, b4, Q', b5, b6⟩ | ⟨b1, -⟩
    · omega
    · subst a6; subst b6
      have := plA_inj a5 b5
      omega
    · omega
  · rcases h' with ⟨b1, -⟩ | ⟨b1, b2, -⟩ | ⟨b1, b2, b3, b4, b5⟩
    · omega
    · omega
    · omega
theorem tY_le {v : xV} {p : Nat} (hw : wfg v) (hc : wfc v) (h80 : (plL v).length ≤ 80) : cb (tY v p) 5376 ≤ 960 := by
  by_cases hX : ∃ X, plA v p X
  · obtain ⟨X, hX⟩ := hX
    have hN := vN_le hw
    have h10 := hw.2.2.1
    refine Nat.le_trans (cb_pig (m := 852) (R := owe v X) (fun y hy ht => ?_) fun x y o => owe_one) (by omega)
    unfold tY at ht
    rw [bt_iff] at ht
    obtain ⟨X', Q, a, b, i, c1, c2, c3, c4⟩ := ht
    have e := plA_fun hX a
    subst e
    have hq := (List.getElem?_eq_some_iff.mp b).1
    have key : ∀ c, (vD v = 0 ∨ (c < 42 ∧ vcl v c = X.2) ∨ i = 0) → soR v i c (y / 128) Q → ∃ o, o < 852 ∧ owe v X y o := fun c hcd hs => by
      rcases hs with ⟨s1, s2, r, s3, s4, s5, s6⟩ | ⟨s1, s2, s3⟩ | ⟨s1, s2, s3, j, s4⟩
      · exact ⟨42 + r, by omega, Or.inr (Or.inl ⟨by omega, by omega, by omega, by omega, Q, b, by rw [s6, c2, show 42 + r - 42 = r by omega]⟩)⟩
      · have hz : i ≠ 0 := fun z => by
          subst z
          unfold vnx at s1
          rw [if_pos rfl] at s1
          split at s1 <;> omega
        refine ⟨i, by omega, Or.inl ⟨by omega, by omega, c1, c2, Q, b, s2.symm, ?_⟩⟩
        rw [s3]
        rcases hcd with z | z | z
        · unfold cD; rw [if_pos z, if_pos z]
        · rw [z.2]
        · exact absurd z hz
      · have hr := (vri_sp s2 c1).1
        refine ⟨52 + vri v i * 80 + y % 128, by omega, Or.inr (Or.inr ⟨by omega, by omega, by omega, by omega, by omega⟩)⟩
    rcases c4 with ⟨w, w2⟩ | ⟨w1, w2, j, w3, w4, w5, w6⟩
    · exact key 42 (w.elim (fun z => Or.inr (Or.inr z)) Or.inl) w2
    · exact key j (Or.inr (Or.inl ⟨by omega, w4⟩)) w6
  · rw [cb_flat (f := tY v p) (a := 0) (b := 5376) (Nat.zero_le _) fun y _ _ => bt_f ?_]
    · exact Nat.zero_le _
    · rintro ⟨X, Q, a, -⟩
      exact hX ⟨X, a⟩

